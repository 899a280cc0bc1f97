theorem qX6_isWord : (yX6_isWord.cls = RX6) ∧ yX6_isWord.cls ≠ "java/lang/invoke/MethodHandle" ∧ yX6_isWord.cls ≠ "java/lang/invoke/VarHandle" ∧ (parseMethodDescriptor yX6_isWord.desc).map (fun d => d.parameters.length) = some 1 := by decide +kernel
set_option maxHeartbeats 4000000 in
set_option maxRecDepth 100000 in
theorem c_X6_isWord (fu : Nat) (l : Launch) (dC : Nat → ClassId) (dI : Nat → Nat → Nat) (K : KT) (kI : ClassId) (h : Nat) (t : TS) (s0 : Nat) (xa0 : Nat) (nx : Nat) (fx : Nat → Int32) (hs0 : s0 < 9) (z : Int32) (hJ : J_X6_isWord fu t s0 nx fx = some z) : Met l yX6_isWord wsX6_isWord ({ frames := 4, cells := 0, slots := 0, locals := 85 }) (va_Pc [.ref h, .ref (K.1 s0)] (ROc K dC dI ((TWc h xa0 t) ++ (AWc xa0 kI nx fx)) [(kI, .int)])) (roQi z) 0 0 (fun _ => False) := by
  refine roc_start (cc := cX6_isWord) (maxL := 3) (ret := (some .boolean)) (by decide) rfl (Nat.le_of_ble_eq_true rfl) ?_
  intro p e s m args below meth c hx hb hr hml hown hts hlocks hNW hK hCE H locs ls hP hS hl
  have hown : s.vm.findClass RX6 = some m.cls := hown
  have hl : lv_has ls 3 [(0, .ref h), (1, .ref (K.1 s0))] := hl
  unfold J_X6_isWord at hJ
  have L28 : ∀ (n : Nat) (y2 : Int32) (H : Heap) (locs : List Loc) (ls : Array Slot), va_P (dC, dI) vwCl ((TWc h xa0 t) ++ (AWc xa0 kI nx fx)) H → va_S (fun _ => False) s.heap H locs → lv_has ls 3 [(0, .ref h), (1, .ref (K.1 s0)), (2, .int y2)] → J_X6_isWord_b28 fu t s0 nx fx n y2 = some z → W p l e ({ frames := 4, cells := 0, slots := 0, locals := 85 }) s m args below meth c H locs 0 0 (MQ below (roQi z) args s 0 0 (fun _ => False)) (F0 m 28 ls []) := by
    intro n
    induction n with
    | zero =>
      intro y2 H locs ls hP hS hl hJ
      rw [J_X6_isWord_b28] at hJ; cases hJ
    | succ n ih =>
      intro y2 H locs ls hP hS hl hJ
      rw [J_X6_isWord_b28] at hJ
      refine lv_iload_n hx hb dX6_isWord_28 rfl (lv_at hl 2 rfl) ?_
      refine lv_aload_n hx hb dX6_isWord_29 rfl (lv_at hl 1 rfl) ?_
      refine roTic (As := []) (rest := [.int y2]) (i := s0) hx hb hml hown hts hs0 (c_J0_length l K dC dI s0 hs0) gX6_isWord_J0_length_8abf5 qJ0_length_8abf5 rfl ⟨Nat.le_of_ble_eq_true rfl, Nat.le_of_ble_eq_true rfl⟩ ⟨rfl, rfl⟩ hNW hCE hK hP hS hl.1 rfl rfl (Nat.le_of_ble_eq_true rfl) dX6_isWord_30 z0 (fun H locs hP hS => ?_)
      refine lv_icmp_ge (tgt := 65) hx hb dX6_isWord_33 (by decide) (fun c3 => ?_) (fun c3 => ?_)
      · have hJ := ite_t c3 hJ
        refine lv_iconst (v := 1) hx hb dX6_isWord_65 (by decide) ?_
        exact ro_zret hx hb hr hlocks rfl hS hJ dX6_isWord_66
      · have hJ := ite_f c3 hJ
        refine lv_aload_n hx hb dX6_isWord_36 rfl (lv_at hl 0 rfl) ?_
        refine va_get (D := (dC, dI)) (ci := 6) (v := .ref xa0) (C := RX6) (T := TX6) (N := 5) hx hb hts (fun _ h => List.mem_cons_of_mem _ (List.mem_append_right _ h)) hown hK hP 0 rfl rfl 0 (by decide) (hts _ (List.mem_of_getElem? (i := 4) rfl)) (fun _ h9 => h9) rfl dX6_isWord_37 ?_
        refine lv_aload_n hx hb dX6_isWord_40 rfl (lv_at hl 0 rfl) ?_
        refine va_get (D := (dC, dI)) (ci := 6) (v := .int (t_start t)) (C := RX6) (T := TX6) (N := 5) hx hb hts (fun _ h => List.mem_cons_of_mem _ (List.mem_append_right _ h)) hown hK hP 0 rfl rfl 3 (by decide) (hts _ (List.mem_of_getElem? (i := 3) rfl)) (fun _ h9 => h9) rfl dX6_isWord_41 ?_
        refine lv_iload_n hx hb dX6_isWord_44 rfl (lv_at hl 2 rfl) ?_
        refine lv_iadd hx hb dX6_isWord_45 ?_
        obtain ⟨z4, e5, hJ⟩ := bnd hJ
        refine roSNi (As := [.ref xa0, .int ((t_start t) + y2)]) (rest := []) hx hb hml hown hts (c_X7_at l dC dI kI xa0 nx fx ((t_start t) + y2) z4 e5) gX6_isWord_X7_at_n28 qX7_at rfl ⟨Nat.le_of_ble_eq_true rfl, Nat.le_of_ble_eq_true rfl⟩ (hNW.use0 (i := 64) rfl) (hts _ (List.mem_of_getElem? (i := 18) rfl)) (hts _ (List.mem_of_getElem? (i := 17) rfl)) ⟨rfl, rfl⟩ hNW hK hP hS (hP.sub (ws' := AWc xa0 kI nx fx) [1] rfl) hK hl.1 rfl rfl (Nat.le_of_ble_eq_true rfl) dX6_isWord_46 z0 (fun H locs hP hS => ?_)
        refine lv_aload_n hx hb dX6_isWord_49 rfl (lv_at hl 1 rfl) ?_
        refine lv_iload_n hx hb dX6_isWord_50 rfl (lv_at hl 2 rfl) ?_
        obtain ⟨z6, e7, hJ⟩ := bnd hJ
        refine roTic (As := [.int y2]) (rest := [.int z4]) (i := s0) hx hb hml hown hts hs0 (c_J0_charAt l K dC dI s0 hs0 y2 z6 e7) gX6_isWord_J0_charAt_5068e qJ0_charAt_5068e rfl ⟨Nat.le_of_ble_eq_true rfl, Nat.le_of_ble_eq_true rfl⟩ ⟨rfl, rfl⟩ hNW hCE hK hP hS hl.1 rfl rfl (Nat.le_of_ble_eq_true rfl) dX6_isWord_51 z0 (fun H locs hP hS => ?_)
        refine lv_icmp_eq (tgt := 59) hx hb dX6_isWord_54 (by decide) (fun c8 => ?_) (fun c8 => ?_)
        · have hJ := ite_t c8 hJ
          refine lv_iinc (v := y2 + 1) (lv' := [(2, .int (y2 + 1)), (0, .ref h), (1, .ref (K.1 s0))]) hx hb dX6_isWord_59 hl (k := 2) rfl rfl (by decide) rfl (fun ls hl => ?_)
          refine lv_goto (tgt := 28) hx hb dX6_isWord_62 (by decide) ?_
          exact ih (y2 + 1) H locs ls hP hS (lv_sub hl [1, 2, 0] rfl) hJ
        · have hJ := ite_f c8 hJ
          refine lv_iconst (v := 0) hx hb dX6_isWord_57 (by decide) ?_
          exact ro_zret hx hb hr hlocks rfl hS hJ dX6_isWord_58
  refine lv_aload_n hx hb dX6_isWord_0 rfl (lv_at hl 0 rfl) ?_
  refine va_get (D := (dC, dI)) (ci := 6) (v := .int (t_kind t)) (C := RX6) (T := TX6) (N := 5) hx hb hts (fun _ h => List.mem_cons_of_mem _ (List.mem_append_right _ h)) hown hK hP 0 rfl rfl 2 (by decide) (hts _ (List.mem_of_getElem? (i := 1) rfl)) (fun _ h9 => h9) rfl dX6_isWord_1 ?_
  refine lv_iconst (v := 1) hx hb dX6_isWord_4 (by decide) ?_
  refine lv_icmp_ne (tgt := 24) hx hb dX6_isWord_5 (by decide) (fun c1 => ?_) (fun c1 => ?_)
  · have hJ := ite_f c1 hJ
    refine lv_iconst (v := 0) hx hb dX6_isWord_24 (by decide) ?_
    exact ro_zret hx hb hr hlocks rfl hS hJ dX6_isWord_25
  · have hJ := ite_t c1 hJ
    refine lv_aload_n hx hb dX6_isWord_8 rfl (lv_at hl 0 rfl) ?_
    refine va_get (D := (dC, dI)) (ci := 6) (v := .int (t_end t)) (C := RX6) (T := TX6) (N := 5) hx hb hts (fun _ h => List.mem_cons_of_mem _ (List.mem_append_right _ h)) hown hK hP 0 rfl rfl 4 (by decide) (hts _ (List.mem_of_getElem? (i := 2) rfl)) (fun _ h9 => h9) rfl dX6_isWord_9 ?_
    refine lv_aload_n hx hb dX6_isWord_12 rfl (lv_at hl 0 rfl) ?_
    refine va_get (D := (dC, dI)) (ci := 6) (v := .int (t_start t)) (C := RX6) (T := TX6) (N := 5) hx hb hts (fun _ h => List.mem_cons_of_mem _ (List.mem_append_right _ h)) hown hK hP 0 rfl rfl 3 (by decide) (hts _ (List.mem_of_getElem? (i := 3) rfl)) (fun _ h9 => h9) rfl dX6_isWord_13 ?_
    refine lv_isub hx hb dX6_isWord_16 ?_
    refine lv_aload_n hx hb dX6_isWord_17 rfl (lv_at hl 1 rfl) ?_
    refine roTic (As := []) (rest := [.int ((t_end t) - (t_start t))]) (i := s0) hx hb hml hown hts hs0 (c_J0_length l K dC dI s0 hs0) gX6_isWord_J0_length_8abf5 qJ0_length_8abf5 rfl ⟨Nat.le_of_ble_eq_true rfl, Nat.le_of_ble_eq_true rfl⟩ ⟨rfl, rfl⟩ hNW hCE hK hP hS hl.1 rfl rfl (Nat.le_of_ble_eq_true rfl) dX6_isWord_18 z0 (fun H locs hP hS => ?_)
    refine lv_icmp_eq (tgt := 26) hx hb dX6_isWord_21 (by decide) (fun c2 => ?_) (fun c2 => ?_)
    · have hJ := ite_t c2 hJ
      refine lv_iconst (v := 0) hx hb dX6_isWord_26 (by decide) ?_
      refine lv_istore_n (lv' := [(2, .int (0 : Int32)), (0, .ref h), (1, .ref (K.1 s0))]) hx hb dX6_isWord_27 rfl hl (by decide) rfl (fun ls hl => ?_)
      exact L28 fu (0 : Int32) H locs ls hP hS (lv_sub hl [1, 2, 0] rfl) hJ
    · have hJ := ite_f c2 hJ
      refine lv_iconst (v := 0) hx hb dX6_isWord_24 (by decide) ?_
      exact ro_zret hx hb hr hlocks rfl hS hJ dX6_isWord_25
theorem qX4_readSizes : (yX4_readSizes.cls = RX4) ∧ yX4_readSizes.cls ≠ "java/lang/invoke/MethodHandle" ∧ yX4_readSizes.cls ≠ "java/lang/invoke/VarHandle" ∧ (parseMethodDescriptor yX4_readSizes.desc).map (fun d => d.parameters.length) = some 1 := by decide +kernel
set_option maxHeartbeats 4000000 in
set_option maxRecDepth 100000 in
theorem c_X4_readSizes (fu : Nat) (l : Launch) (dC : Nat → ClassId) (dI : Nat → Nat → Nat) (K : KT) (kI : ClassId) (a : Nat → Nat) (r : RS) (h0 : Nat) (t0 : TS) (xa0 : Nat) (nx : Nat) (fx : Nat → Int32) (sz : Nat) (z : Int32 × RS × TS) (hJ : J_X4_readSizes fu r t0 nx fx = some z) : Met l yX4_readSizes wsX4_readSizes ({ frames := 5, cells := 0, slots := 0, locals := 107 }) (va_Pc [.ref (a 0), .ref h0] (RWc' K dC dI sz ((RWc a kI r) ++ (TWc h0 xa0 t0) ++ (AWc xa0 kI nx fx)) [(kI, .int)])) (rwQi dC dI (va_A ((RWc a kI r) ++ (TWc h0 xa0 t0) ++ (AWc xa0 kI nx fx)) sz) ((RWc a kI z.2.1) ++ (TWc h0 xa0 z.2.2) ++ (AWc xa0 kI nx fx)) z.1) 0 0 (va_A ((RWc a kI r) ++ (TWc h0 xa0 t0) ++ (AWc xa0 kI nx fx)) sz) := by
  refine rwc_start (Qc := fun A => rwQi dC dI A ((RWc a kI z.2.1) ++ (TWc h0 xa0 z.2.2) ++ (AWc xa0 kI nx fx)) z.1) (cc := cX4_readSizes) (maxL := 2) (ret := (some .boolean)) (by decide) rfl (Nat.le_of_ble_eq_true rfl) ?_
  intro p e s m args below meth c hx hb hr hml hown hts hlocks hNW hK A hA hCE H locs ls hP hD hS hl
  have hown : s.vm.findClass RX4 = some m.cls := hown
  have hl : lv_has ls 2 [(0, .ref (a 0)), (1, .ref h0)] := hl
  unfold J_X4_readSizes at hJ
  refine lv_aload_n hx hb dX4_readSizes_0 rfl (lv_at hl 1 rfl) ?_
  obtain ⟨z1, e2, hJ⟩ := bnd hJ
  refine rwVv (As := []) (rest := []) (wc := (TWc h0 xa0 t0) ++ (AWc xa0 kI nx fx)) (wc' := (TWc h0 xa0 z1) ++ (AWc xa0 kI nx fx)) (ws' := (RWc a kI r) ++ (TWc h0 xa0 z1) ++ (AWc xa0 kI nx fx)) (ci := 6) (q0 := 0) hx hb hml hown hts (c_X6_step fu l dC dI kI h0 t0 xa0 nx fx H.size z1 e2) gX4_readSizes_X6_step qX6_step rfl ⟨Nat.le_of_ble_eq_true rfl, Nat.le_of_ble_eq_true rfl⟩ ⟨rfl, rfl⟩ hNW hK hP hD hS hA [2, 3] [0, 1] rfl rfl (by decide) (by decide) (by decide) [0, 1, 2, 3] rfl (by decide) hK rfl rfl rfl hl.1 rfl rfl (Nat.le_of_ble_eq_true rfl) dX4_readSizes_1 z0 (fun H locs hP hD hS => ?_)
  refine lv_aload_n hx hb dX4_readSizes_4 rfl (lv_at hl 1 rfl) ?_
  refine va_ldcS hx hb hown (hCE.2.1 (RX4, 34, "lzw", 3) (List.mem_of_getElem? (i := 3) rfl)) dX4_readSizes_5 ?_
  obtain ⟨z3, e4, hJ⟩ := bnd hJ
  refine roVic (As := [.ref (K.1 3)]) (rest := []) (ci := 6) (q0 := 0) hx hb hml hown hts (c_X6_isWord fu l dC dI K kI h0 z1 3 xa0 nx fx (by decide) z3 e4) gX4_readSizes_X6_isWord qX6_isWord rfl ⟨Nat.le_of_ble_eq_true rfl, Nat.le_of_ble_eq_true rfl⟩ ⟨rfl, rfl⟩ hNW hCE hK hP hS (hP.sub (ws' := (TWc h0 xa0 z1) ++ (AWc xa0 kI nx fx)) [2, 3] rfl) hK rfl rfl rfl hl.1 rfl rfl (Nat.le_of_ble_eq_true rfl) dX4_readSizes_7 z0 (fun H locs hP hS => ?_)
  refine lv_if_ne (tgt := 15) hx hb dX4_readSizes_10 (by decide) (fun c5 => ?_) (fun c5 => ?_)
  · have hJ := ite_f c5 hJ
    refine lv_aload_n hx hb dX4_readSizes_15 rfl (lv_at hl 1 rfl) ?_
    obtain ⟨z6, e7, hJ⟩ := bnd hJ
    refine rwVv (As := []) (rest := []) (wc := (TWc h0 xa0 z1) ++ (AWc xa0 kI nx fx)) (wc' := (TWc h0 xa0 z6) ++ (AWc xa0 kI nx fx)) (ws' := (RWc a kI r) ++ (TWc h0 xa0 z6) ++ (AWc xa0 kI nx fx)) (ci := 6) (q0 := 0) hx hb hml hown hts (c_X6_step fu l dC dI kI h0 z1 xa0 nx fx H.size z6 e7) gX4_readSizes_X6_step qX6_step rfl ⟨Nat.le_of_ble_eq_true rfl, Nat.le_of_ble_eq_true rfl⟩ ⟨rfl, rfl⟩ hNW hK hP hD hS hA [2, 3] [0, 1] rfl rfl (by decide) (by decide) (by decide) [0, 1, 2, 3] rfl (by decide) hK rfl rfl rfl hl.1 rfl rfl (Nat.le_of_ble_eq_true rfl) dX4_readSizes_16 z0 (fun H locs hP hD hS => ?_)
    refine lv_aload_n hx hb dX4_readSizes_19 rfl (lv_at hl 1 rfl) ?_
    refine lv_iconst (v := 2) hx hb dX4_readSizes_20 (by decide) ?_
    refine lv_bipush (v := 26) hx hb dX4_readSizes_21 (by decide) ?_
    obtain ⟨z8, e9, hJ⟩ := bnd hJ
    refine roVi (As := [.int (2 : Int32), .int (26 : Int32)]) (rest := []) (ci := 6) (q0 := 0) hx hb hml hown hts (c_X6_isNumber fu l dC dI kI h0 z6 (2 : Int32) (26 : Int32) xa0 nx fx z8 e9) gX4_readSizes_X6_isNumber qX6_isNumber rfl ⟨Nat.le_of_ble_eq_true rfl, Nat.le_of_ble_eq_true rfl⟩ ⟨rfl, rfl⟩ hNW hK hP hS (hP.sub (ws' := (TWc h0 xa0 z6) ++ (AWc xa0 kI nx fx)) [2, 3] rfl) hK rfl rfl rfl hl.1 rfl rfl (Nat.le_of_ble_eq_true rfl) dX4_readSizes_23 z0 (fun H locs hP hS => ?_)
    refine lv_if_ne (tgt := 31) hx hb dX4_readSizes_26 (by decide) (fun c10 => ?_) (fun c10 => ?_)
    · have hJ := ite_f c10 hJ
      refine lv_aload_n hx hb dX4_readSizes_31 rfl (lv_at hl 0 rfl) ?_
      refine lv_aload_n hx hb dX4_readSizes_32 rfl (lv_at hl 1 rfl) ?_
      obtain ⟨z11, e12, hJ⟩ := bnd hJ
      refine roVi (As := []) (rest := [.ref (a 0)]) (ci := 6) (q0 := 0) hx hb hml hown hts (c_X6_number fu l dC dI kI h0 z6 xa0 nx fx z11 e12) gX4_readSizes_X6_number qX6_number rfl ⟨Nat.le_of_ble_eq_true rfl, Nat.le_of_ble_eq_true rfl⟩ ⟨rfl, rfl⟩ hNW hK hP hS (hP.sub (ws' := (TWc h0 xa0 z6) ++ (AWc xa0 kI nx fx)) [2, 3] rfl) hK rfl rfl rfl hl.1 rfl rfl (Nat.le_of_ble_eq_true rfl) dX4_readSizes_33 z0 (fun H locs hP hS => ?_)
      refine va_put (D := (dC, dI)) (ci := 4) (v := .int z11) (ty := .int) (C := RX4) (T := TX4) (N := 6) hx hb hts (fun _ h => List.mem_cons_of_mem _ (List.mem_append_left _ (List.mem_append_right _ h))) tyX4 tyX4_ok nmX4 hown hK hP hD hS 0 rfl rfl 0 (by decide) (hts _ (List.mem_of_getElem? (i := 1) rfl)) (fun _ h9 => h9) rfl (by decide +kernel) rfl rfl (Nat.le_of_ble_eq_true rfl) dX4_readSizes_36 (fun H locs hP hD hS => ?_)
      have hP : va_P (dC, dI) vwCl ((RWc a kI (mkR z11 (r_width r) (r_policy r) (r_limit r) (r_symbols r) (r_count r))) ++ (TWc h0 xa0 z6) ++ (AWc xa0 kI nx fx)) H := hP
      have hD : va_D A ((RWc a kI (mkR z11 (r_width r) (r_policy r) (r_limit r) (r_symbols r) (r_count r))) ++ (TWc h0 xa0 z6) ++ (AWc xa0 kI nx fx)) := hD
      refine lv_aload_n hx hb dX4_readSizes_39 rfl (lv_at hl 1 rfl) ?_
      obtain ⟨z13, e14, hJ⟩ := bnd hJ
      refine rwVv (As := []) (rest := []) (wc := (TWc h0 xa0 z6) ++ (AWc xa0 kI nx fx)) (wc' := (TWc h0 xa0 z13) ++ (AWc xa0 kI nx fx)) (ws' := (RWc a kI (mkR z11 (r_width r) (r_policy r) (r_limit r) (r_symbols r) (r_count r))) ++ (TWc h0 xa0 z13) ++ (AWc xa0 kI nx fx)) (ci := 6) (q0 := 0) hx hb hml hown hts (c_X6_step fu l dC dI kI h0 z6 xa0 nx fx H.size z13 e14) gX4_readSizes_X6_step qX6_step rfl ⟨Nat.le_of_ble_eq_true rfl, Nat.le_of_ble_eq_true rfl⟩ ⟨rfl, rfl⟩ hNW hK hP hD hS hA [2, 3] [0, 1] rfl rfl (by decide) (by decide) (by decide) [0, 1, 2, 3] rfl (by decide) hK rfl rfl rfl hl.1 rfl rfl (Nat.le_of_ble_eq_true rfl) dX4_readSizes_40 z0 (fun H locs hP hD hS => ?_)
      refine lv_aload_n hx hb dX4_readSizes_43 rfl (lv_at hl 1 rfl) ?_
      refine lv_iconst (v := 3) hx hb dX4_readSizes_44 (by decide) ?_
      refine lv_bipush (v := 8) hx hb dX4_readSizes_45 (by decide) ?_
      obtain ⟨z15, e16, hJ⟩ := bnd hJ
      refine roVi (As := [.int (3 : Int32), .int (8 : Int32)]) (rest := []) (ci := 6) (q0 := 0) hx hb hml hown hts (c_X6_isNumber fu l dC dI kI h0 z13 (3 : Int32) (8 : Int32) xa0 nx fx z15 e16) gX4_readSizes_X6_isNumber qX6_isNumber rfl ⟨Nat.le_of_ble_eq_true rfl, Nat.le_of_ble_eq_true rfl⟩ ⟨rfl, rfl⟩ hNW hK hP hS (hP.sub (ws' := (TWc h0 xa0 z13) ++ (AWc xa0 kI nx fx)) [2, 3] rfl) hK rfl rfl rfl hl.1 rfl rfl (Nat.le_of_ble_eq_true rfl) dX4_readSizes_47 z0 (fun H locs hP hS => ?_)
      refine lv_if_ne (tgt := 55) hx hb dX4_readSizes_50 (by decide) (fun c17 => ?_) (fun c17 => ?_)
      · have hJ := ite_f c17 hJ
        refine lv_aload_n hx hb dX4_readSizes_55 rfl (lv_at hl 0 rfl) ?_
        refine lv_aload_n hx hb dX4_readSizes_56 rfl (lv_at hl 1 rfl) ?_
        obtain ⟨z18, e19, hJ⟩ := bnd hJ
        refine roVi (As := []) (rest := [.ref (a 0)]) (ci := 6) (q0 := 0) hx hb hml hown hts (c_X6_number fu l dC dI kI h0 z13 xa0 nx fx z18 e19) gX4_readSizes_X6_number qX6_number rfl ⟨Nat.le_of_ble_eq_true rfl, Nat.le_of_ble_eq_true rfl⟩ ⟨rfl, rfl⟩ hNW hK hP hS (hP.sub (ws' := (TWc h0 xa0 z13) ++ (AWc xa0 kI nx fx)) [2, 3] rfl) hK rfl rfl rfl hl.1 rfl rfl (Nat.le_of_ble_eq_true rfl) dX4_readSizes_57 z0 (fun H locs hP hS => ?_)
        refine va_put (D := (dC, dI)) (ci := 4) (v := .int z18) (ty := .int) (C := RX4) (T := TX4) (N := 6) hx hb hts (fun _ h => List.mem_cons_of_mem _ (List.mem_append_left _ (List.mem_append_right _ h))) tyX4 tyX4_ok nmX4 hown hK hP hD hS 0 rfl rfl 1 (by decide) (hts _ (List.mem_of_getElem? (i := 2) rfl)) (fun _ h9 => h9) rfl (by decide +kernel) rfl rfl (Nat.le_of_ble_eq_true rfl) dX4_readSizes_60 (fun H locs hP hD hS => ?_)
        have hP : va_P (dC, dI) vwCl ((RWc a kI (mkR z11 z18 (r_policy r) (r_limit r) (r_symbols r) (r_count r))) ++ (TWc h0 xa0 z13) ++ (AWc xa0 kI nx fx)) H := hP
        have hD : va_D A ((RWc a kI (mkR z11 z18 (r_policy r) (r_limit r) (r_symbols r) (r_count r))) ++ (TWc h0 xa0 z13) ++ (AWc xa0 kI nx fx)) := hD
        refine lv_iconst (v := 1) hx hb dX4_readSizes_63 (by decide) ?_
        refine lv_aload_n hx hb dX4_readSizes_64 rfl (lv_at hl 0 rfl) ?_
        refine va_get (D := (dC, dI)) (ci := 4) (v := .int z18) (C := RX4) (T := TX4) (N := 6) hx hb hts (fun _ h => List.mem_cons_of_mem _ (List.mem_append_left _ (List.mem_append_right _ h))) hown hK hP 0 rfl rfl 1 (by decide) (hts _ (List.mem_of_getElem? (i := 2) rfl)) (fun _ h9 => h9) rfl dX4_readSizes_65 ?_
        refine lv_ishl hx hb dX4_readSizes_68 ?_
        refine lv_aload_n hx hb dX4_readSizes_69 rfl (lv_at hl 0 rfl) ?_
        refine va_get (D := (dC, dI)) (ci := 4) (v := .int z11) (C := RX4) (T := TX4) (N := 6) hx hb hts (fun _ h => List.mem_cons_of_mem _ (List.mem_append_left _ (List.mem_append_right _ h))) hown hK hP 0 rfl rfl 0 (by decide) (hts _ (List.mem_of_getElem? (i := 1) rfl)) (fun _ h9 => h9) rfl dX4_readSizes_70 ?_
        refine lv_iconst (v := 2) hx hb dX4_readSizes_73 (by decide) ?_
        refine lv_iadd hx hb dX4_readSizes_74 ?_
        refine lv_icmp_lt (tgt := 82) hx hb dX4_readSizes_75 (by decide) (fun c20 => ?_) (fun c20 => ?_)
        · have hJ := ite_t c20 hJ
          refine lv_iconst (v := 0) hx hb dX4_readSizes_82 (by decide) ?_
          obtain rfl := Option.some.inj hJ
          exact rw_zret hx hb hr hlocks rfl rfl hP hD hS dX4_readSizes_83
        · have hJ := ite_f c20 hJ
          refine lv_iconst (v := 1) hx hb dX4_readSizes_78 (by decide) ?_
          refine lv_goto (tgt := 83) hx hb dX4_readSizes_79 (by decide) ?_
          obtain rfl := Option.some.inj hJ
          exact rw_zret hx hb hr hlocks rfl rfl hP hD hS dX4_readSizes_83
      · have hJ := ite_t c17 hJ
        refine lv_iconst (v := 0) hx hb dX4_readSizes_53 (by decide) ?_
        obtain rfl := Option.some.inj hJ
        exact rw_zret hx hb hr hlocks rfl rfl hP hD hS dX4_readSizes_54
    · have hJ := ite_t c10 hJ
      refine lv_iconst (v := 0) hx hb dX4_readSizes_29 (by decide) ?_
      obtain rfl := Option.some.inj hJ
      exact rw_zret hx hb hr hlocks rfl rfl hP hD hS dX4_readSizes_30
  · have hJ := ite_t c5 hJ
    refine lv_iconst (v := 0) hx hb dX4_readSizes_13 (by decide) ?_
    obtain rfl := Option.some.inj hJ
    exact rw_zret hx hb hr hlocks rfl rfl hP hD hS dX4_readSizes_14
theorem qX4_policyNamed : (yX4_policyNamed.cls = RX4) ∧ yX4_policyNamed.cls ≠ "java/lang/invoke/MethodHandle" ∧ yX4_policyNamed.cls ≠ "java/lang/invoke/VarHandle" ∧ (parseMethodDescriptor yX4_policyNamed.desc).map (fun d => d.parameters.length) = some 1 := by decide +kernel
set_option maxHeartbeats 4000000 in
set_option maxRecDepth 100000 in
theorem c_X4_policyNamed (fu : Nat) (l : Launch) (dC : Nat → ClassId) (dI : Nat → Nat → Nat) (K : KT) (kI : ClassId) (h0 : Nat) (t0 : TS) (xa0 : Nat) (nx : Nat) (fx : Nat → Int32) (z : Int32) (hJ : J_X4_policyNamed fu t0 nx fx = some z) : Met l yX4_policyNamed wsX4_policyNamed ({ frames := 5, cells := 0, slots := 0, locals := 107 }) (va_Pc [.ref h0] (ROc K dC dI ((TWc h0 xa0 t0) ++ (AWc xa0 kI nx fx)) [(kI, .int)])) (roQi z) 0 0 (fun _ => False) := by
  refine roc_start (cc := cX4_policyNamed) (maxL := 2) (ret := (some .int)) (by decide) rfl (Nat.le_of_ble_eq_true rfl) ?_
  intro p e s m args below meth c hx hb hr hml hown hts hlocks hNW hK hCE H locs ls hP hS hl
  have hown : s.vm.findClass RX4 = some m.cls := hown
  have hl : lv_has ls 2 [(0, .ref h0)] := hl
  unfold J_X4_policyNamed at hJ
  have L2 : ∀ (n : Nat) (y1 : Int32) (H : Heap) (locs : List Loc) (ls : Array Slot), va_P (dC, dI) vwCl ((TWc h0 xa0 t0) ++ (AWc xa0 kI nx fx)) H → va_S (fun _ => False) s.heap H locs → lv_has ls 2 [(0, .ref h0), (1, .int y1)] → J_X4_policyNamed_b2 fu t0 nx fx n y1 = some z → W p l e ({ frames := 5, cells := 0, slots := 0, locals := 107 }) s m args below meth c H locs 0 0 (MQ below (roQi z) args s 0 0 (fun _ => False)) (F0 m 2 ls []) := by
    intro n
    induction n with
    | zero =>
      intro y1 H locs ls hP hS hl hJ
      rw [J_X4_policyNamed_b2] at hJ; cases hJ
    | succ n ih =>
      intro y1 H locs ls hP hS hl hJ
      rw [J_X4_policyNamed_b2] at hJ
      refine lv_iload_n hx hb dX4_policyNamed_2 rfl (lv_at hl 1 rfl) ?_
      refine lv_iconst (v := 2) hx hb dX4_policyNamed_3 (by decide) ?_
      refine lv_icmp_gt (tgt := 26) hx hb dX4_policyNamed_4 (by decide) (fun c1 => ?_) (fun c1 => ?_)
      · have hJ := ite_t c1 hJ
        refine lv_iconst (v := -1) hx hb dX4_policyNamed_26 (by decide) ?_
        exact ro_iret hx hb hr hlocks hS hJ dX4_policyNamed_27
      · have hJ := ite_f c1 hJ
        refine lv_aload_n hx hb dX4_policyNamed_7 rfl (lv_at hl 0 rfl) ?_
        refine lv_iload_n hx hb dX4_policyNamed_8 rfl (lv_at hl 1 rfl) ?_
        obtain ⟨z2, e3, hJ⟩ := bnd hJ
        refine roSNsc (As := [.int y1]) (rest := [.ref h0]) hx hb hml hown hts (c_X7_nameOfPolicy l K dC dI y1 z2 e3) gX4_policyNamed_X7_nameOfPolicy_n67 qX7_nameOfPolicy rfl ⟨Nat.le_of_ble_eq_true rfl, Nat.le_of_ble_eq_true rfl⟩ (hNW.use0 (i := 65) rfl) (hts _ (List.mem_of_getElem? (i := 2) rfl)) (hts _ (List.mem_of_getElem? (i := 1) rfl)) ⟨rfl, rfl⟩ hNW hCE hK hP hS (hP.sub (ws' := []) [] rfl) (hK.sub (tys' := []) [] rfl) hl.1 rfl rfl (Nat.le_of_ble_eq_true rfl) dX4_policyNamed_9 z0 (fun H locs hP hS => ?_)
        obtain ⟨z4, e5, hJ⟩ := bnd hJ
        refine roVic (As := [.ref (K.1 z2)]) (rest := []) (ci := 6) (q0 := 0) hx hb hml hown hts (c_X6_isWord fu l dC dI K kI h0 t0 z2 xa0 nx fx (nop_lt e3) z4 e5) gX4_policyNamed_X6_isWord qX6_isWord rfl ⟨Nat.le_of_ble_eq_true rfl, Nat.le_of_ble_eq_true rfl⟩ ⟨rfl, rfl⟩ hNW hCE hK hP hS hP hK rfl rfl rfl hl.1 rfl rfl (Nat.le_of_ble_eq_true rfl) dX4_policyNamed_12 z0 (fun H locs hP hS => ?_)
        refine lv_if_eq (tgt := 20) hx hb dX4_policyNamed_15 (by decide) (fun c6 => ?_) (fun c6 => ?_)
        · have hJ := ite_t c6 hJ
          refine lv_iinc (v := y1 + 1) (lv' := [(1, .int (y1 + 1)), (0, .ref h0)]) hx hb dX4_policyNamed_20 hl (k := 1) rfl rfl (by decide) rfl (fun ls hl => ?_)
          refine lv_goto (tgt := 2) hx hb dX4_policyNamed_23 (by decide) ?_
          exact ih (y1 + 1) H locs ls hP hS (lv_sub hl [1, 0] rfl) hJ
        · have hJ := ite_f c6 hJ
          refine lv_iload_n hx hb dX4_policyNamed_18 rfl (lv_at hl 1 rfl) ?_
          exact ro_iret hx hb hr hlocks hS hJ dX4_policyNamed_19
  refine lv_iconst (v := 0) hx hb dX4_policyNamed_0 (by decide) ?_
  refine lv_istore_n (lv' := [(1, .int (0 : Int32)), (0, .ref h0)]) hx hb dX4_policyNamed_1 rfl hl (by decide) rfl (fun ls hl => ?_)
  exact L2 fu (0 : Int32) H locs ls hP hS (lv_sub hl [1, 0] rfl) hJ
theorem qX4_readPolicy : (yX4_readPolicy.cls = RX4) ∧ yX4_readPolicy.cls ≠ "java/lang/invoke/MethodHandle" ∧ yX4_readPolicy.cls ≠ "java/lang/invoke/VarHandle" ∧ (parseMethodDescriptor yX4_readPolicy.desc).map (fun d => d.parameters.length) = some 1 := by decide +kernel
set_option maxHeartbeats 4000000 in
set_option maxRecDepth 100000 in
theorem c_X4_readPolicy (fu : Nat) (l : Launch) (dC : Nat → ClassId) (dI : Nat → Nat → Nat) (K : KT) (kI : ClassId) (a : Nat → Nat) (r : RS) (h0 : Nat) (t0 : TS) (xa0 : Nat) (nx : Nat) (fx : Nat → Int32) (sz : Nat) (z : Int32 × RS × TS) (hJ : J_X4_readPolicy fu r t0 nx fx = some z) : Met l yX4_readPolicy wsX4_readPolicy ({ frames := 6, cells := 0, slots := 0, locals := 128 }) (va_Pc [.ref (a 0), .ref h0] (RWc' K dC dI sz ((RWc a kI r) ++ (TWc h0 xa0 t0) ++ (AWc xa0 kI nx fx)) [(kI, .int)])) (rwQi dC dI (va_A ((RWc a kI r) ++ (TWc h0 xa0 t0) ++ (AWc xa0 kI nx fx)) sz) ((RWc a kI z.2.1) ++ (TWc h0 xa0 z.2.2) ++ (AWc xa0 kI nx fx)) z.1) 0 0 (va_A ((RWc a kI r) ++ (TWc h0 xa0 t0) ++ (AWc xa0 kI nx fx)) sz) := by
  refine rwc_start (Qc := fun A => rwQi dC dI A ((RWc a kI z.2.1) ++ (TWc h0 xa0 z.2.2) ++ (AWc xa0 kI nx fx)) z.1) (cc := cX4_readPolicy) (maxL := 2) (ret := (some .boolean)) (by decide) rfl (Nat.le_of_ble_eq_true rfl) ?_
  intro p e s m args below meth c hx hb hr hml hown hts hlocks hNW hK A hA hCE H locs ls hP hD hS hl
  have hown : s.vm.findClass RX4 = some m.cls := hown
  have hl : lv_has ls 2 [(0, .ref (a 0)), (1, .ref h0)] := hl
  unfold J_X4_readPolicy at hJ
  refine lv_aload_n hx hb dX4_readPolicy_0 rfl (lv_at hl 1 rfl) ?_
  obtain ⟨z1, e2, hJ⟩ := bnd hJ
  refine rwVv (As := []) (rest := []) (wc := (TWc h0 xa0 t0) ++ (AWc xa0 kI nx fx)) (wc' := (TWc h0 xa0 z1) ++ (AWc xa0 kI nx fx)) (ws' := (RWc a kI r) ++ (TWc h0 xa0 z1) ++ (AWc xa0 kI nx fx)) (ci := 6) (q0 := 0) hx hb hml hown hts (c_X6_step fu l dC dI kI h0 t0 xa0 nx fx H.size z1 e2) gX4_readPolicy_X6_step qX6_step rfl ⟨Nat.le_of_ble_eq_true rfl, Nat.le_of_ble_eq_true rfl⟩ ⟨rfl, rfl⟩ hNW hK hP hD hS hA [2, 3] [0, 1] rfl rfl (by decide) (by decide) (by decide) [0, 1, 2, 3] rfl (by decide) hK rfl rfl rfl hl.1 rfl rfl (Nat.le_of_ble_eq_true rfl) dX4_readPolicy_1 z0 (fun H locs hP hD hS => ?_)
  refine lv_aload_n hx hb dX4_readPolicy_4 rfl (lv_at hl 0 rfl) ?_
  refine lv_aload_n hx hb dX4_readPolicy_5 rfl (lv_at hl 1 rfl) ?_
  obtain ⟨z3, e4, hJ⟩ := bnd hJ
  refine roSic (As := [.ref h0]) (rest := [.ref (a 0)]) hx hb hml hown hts (c_X4_policyNamed fu l dC dI K kI h0 z1 xa0 nx fx z3 e4) gX4_readPolicy_X4_policyNamed qX4_policyNamed rfl ⟨Nat.le_of_ble_eq_true rfl, Nat.le_of_ble_eq_true rfl⟩ ⟨rfl, rfl⟩ hNW hCE hK hP hS (hP.sub (ws' := (TWc h0 xa0 z1) ++ (AWc xa0 kI nx fx)) [2, 3] rfl) hK hl.1 rfl rfl (Nat.le_of_ble_eq_true rfl) dX4_readPolicy_6 z0 (fun H locs hP hS => ?_)
  refine va_put (D := (dC, dI)) (ci := 4) (v := .int z3) (ty := .int) (C := RX4) (T := TX4) (N := 6) hx hb hts (fun _ h => List.mem_cons_of_mem _ (List.mem_append_left _ (List.mem_append_right _ h))) tyX4 tyX4_ok nmX4 hown hK hP hD hS 0 rfl rfl 2 (by decide) (hts _ (List.mem_of_getElem? (i := 1) rfl)) (fun _ h9 => h9) rfl (by decide +kernel) rfl rfl (Nat.le_of_ble_eq_true rfl) dX4_readPolicy_9 (fun H locs hP hD hS => ?_)
  have hP : va_P (dC, dI) vwCl ((RWc a kI (mkR (r_alphabet r) (r_width r) z3 (r_limit r) (r_symbols r) (r_count r))) ++ (TWc h0 xa0 z1) ++ (AWc xa0 kI nx fx)) H := hP
  have hD : va_D A ((RWc a kI (mkR (r_alphabet r) (r_width r) z3 (r_limit r) (r_symbols r) (r_count r))) ++ (TWc h0 xa0 z1) ++ (AWc xa0 kI nx fx)) := hD
  refine lv_aload_n hx hb dX4_readPolicy_12 rfl (lv_at hl 0 rfl) ?_
  refine va_get (D := (dC, dI)) (ci := 4) (v := .int z3) (C := RX4) (T := TX4) (N := 6) hx hb hts (fun _ h => List.mem_cons_of_mem _ (List.mem_append_left _ (List.mem_append_right _ h))) hown hK hP 0 rfl rfl 2 (by decide) (hts _ (List.mem_of_getElem? (i := 1) rfl)) (fun _ h9 => h9) rfl dX4_readPolicy_13 ?_
  refine lv_iconst (v := -1) hx hb dX4_readPolicy_16 (by decide) ?_
  refine lv_icmp_ne (tgt := 22) hx hb dX4_readPolicy_17 (by decide) (fun c5 => ?_) (fun c5 => ?_)
  · have hJ := ite_f c5 hJ
    refine lv_aload_n hx hb dX4_readPolicy_22 rfl (lv_at hl 1 rfl) ?_
    obtain ⟨z6, e7, hJ⟩ := bnd hJ
    refine rwVv (As := []) (rest := []) (wc := (TWc h0 xa0 z1) ++ (AWc xa0 kI nx fx)) (wc' := (TWc h0 xa0 z6) ++ (AWc xa0 kI nx fx)) (ws' := (RWc a kI (mkR (r_alphabet r) (r_width r) z3 (r_limit r) (r_symbols r) (r_count r))) ++ (TWc h0 xa0 z6) ++ (AWc xa0 kI nx fx)) (ci := 6) (q0 := 0) hx hb hml hown hts (c_X6_step fu l dC dI kI h0 z1 xa0 nx fx H.size z6 e7) gX4_readPolicy_X6_step qX6_step rfl ⟨Nat.le_of_ble_eq_true rfl, Nat.le_of_ble_eq_true rfl⟩ ⟨rfl, rfl⟩ hNW hK hP hD hS hA [2, 3] [0, 1] rfl rfl (by decide) (by decide) (by decide) [0, 1, 2, 3] rfl (by decide) hK rfl rfl rfl hl.1 rfl rfl (Nat.le_of_ble_eq_true rfl) dX4_readPolicy_23 z0 (fun H locs hP hD hS => ?_)
    refine lv_aload_n hx hb dX4_readPolicy_26 rfl (lv_at hl 1 rfl) ?_
    refine lv_iconst (v := 1) hx hb dX4_readPolicy_27 (by decide) ?_
    refine lv_sipush (v := 200) hx hb dX4_readPolicy_28 (by decide) ?_
    obtain ⟨z8, e9, hJ⟩ := bnd hJ
    refine roVi (As := [.int (1 : Int32), .int (200 : Int32)]) (rest := []) (ci := 6) (q0 := 0) hx hb hml hown hts (c_X6_isNumber fu l dC dI kI h0 z6 (1 : Int32) (200 : Int32) xa0 nx fx z8 e9) gX4_readPolicy_X6_isNumber qX6_isNumber rfl ⟨Nat.le_of_ble_eq_true rfl, Nat.le_of_ble_eq_true rfl⟩ ⟨rfl, rfl⟩ hNW hK hP hS (hP.sub (ws' := (TWc h0 xa0 z6) ++ (AWc xa0 kI nx fx)) [2, 3] rfl) hK rfl rfl rfl hl.1 rfl rfl (Nat.le_of_ble_eq_true rfl) dX4_readPolicy_31 z0 (fun H locs hP hS => ?_)
    refine lv_if_ne (tgt := 39) hx hb dX4_readPolicy_34 (by decide) (fun c10 => ?_) (fun c10 => ?_)
    · have hJ := ite_f c10 hJ
      refine lv_aload_n hx hb dX4_readPolicy_39 rfl (lv_at hl 0 rfl) ?_
      refine lv_aload_n hx hb dX4_readPolicy_40 rfl (lv_at hl 1 rfl) ?_
      obtain ⟨z11, e12, hJ⟩ := bnd hJ
      refine roVi (As := []) (rest := [.ref (a 0)]) (ci := 6) (q0 := 0) hx hb hml hown hts (c_X6_number fu l dC dI kI h0 z6 xa0 nx fx z11 e12) gX4_readPolicy_X6_number qX6_number rfl ⟨Nat.le_of_ble_eq_true rfl, Nat.le_of_ble_eq_true rfl⟩ ⟨rfl, rfl⟩ hNW hK hP hS (hP.sub (ws' := (TWc h0 xa0 z6) ++ (AWc xa0 kI nx fx)) [2, 3] rfl) hK rfl rfl rfl hl.1 rfl rfl (Nat.le_of_ble_eq_true rfl) dX4_readPolicy_41 z0 (fun H locs hP hS => ?_)
      refine va_put (D := (dC, dI)) (ci := 4) (v := .int z11) (ty := .int) (C := RX4) (T := TX4) (N := 6) hx hb hts (fun _ h => List.mem_cons_of_mem _ (List.mem_append_left _ (List.mem_append_right _ h))) tyX4 tyX4_ok nmX4 hown hK hP hD hS 0 rfl rfl 3 (by decide) (hts _ (List.mem_of_getElem? (i := 2) rfl)) (fun _ h9 => h9) rfl (by decide +kernel) rfl rfl (Nat.le_of_ble_eq_true rfl) dX4_readPolicy_44 (fun H locs hP hD hS => ?_)
      have hP : va_P (dC, dI) vwCl ((RWc a kI (mkR (r_alphabet r) (r_width r) z3 z11 (r_symbols r) (r_count r))) ++ (TWc h0 xa0 z6) ++ (AWc xa0 kI nx fx)) H := hP
      have hD : va_D A ((RWc a kI (mkR (r_alphabet r) (r_width r) z3 z11 (r_symbols r) (r_count r))) ++ (TWc h0 xa0 z6) ++ (AWc xa0 kI nx fx)) := hD
      refine lv_aload_n hx hb dX4_readPolicy_47 rfl (lv_at hl 1 rfl) ?_
      obtain ⟨z13, e14, hJ⟩ := bnd hJ
      refine rwVv (As := []) (rest := []) (wc := (TWc h0 xa0 z6) ++ (AWc xa0 kI nx fx)) (wc' := (TWc h0 xa0 z13) ++ (AWc xa0 kI nx fx)) (ws' := (RWc a kI (mkR (r_alphabet r) (r_width r) z3 z11 (r_symbols r) (r_count r))) ++ (TWc h0 xa0 z13) ++ (AWc xa0 kI nx fx)) (ci := 6) (q0 := 0) hx hb hml hown hts (c_X6_step fu l dC dI kI h0 z6 xa0 nx fx H.size z13 e14) gX4_readPolicy_X6_step qX6_step rfl ⟨Nat.le_of_ble_eq_true rfl, Nat.le_of_ble_eq_true rfl⟩ ⟨rfl, rfl⟩ hNW hK hP hD hS hA [2, 3] [0, 1] rfl rfl (by decide) (by decide) (by decide) [0, 1, 2, 3] rfl (by decide) hK rfl rfl rfl hl.1 rfl rfl (Nat.le_of_ble_eq_true rfl) dX4_readPolicy_48 z0 (fun H locs hP hD hS => ?_)
      refine lv_aload_n hx hb dX4_readPolicy_51 rfl (lv_at hl 1 rfl) ?_
      refine va_getN (D := (dC, dI)) (ci := 6) (v := .int (t_kind z13)) (C := RX6) (T := TX6) (N := 5) hx hb hts (fun _ h => List.mem_cons_of_mem _ (List.mem_append_right _ h)) hown hK hP 2 rfl rfl 2 (by decide) (hNW.use (i := 34) rfl) (fun _ h9 => h9) rfl dX4_readPolicy_52 ?_
      refine lv_iconst (v := 3) hx hb dX4_readPolicy_55 (by decide) ?_
      refine lv_icmp_ne (tgt := 63) hx hb dX4_readPolicy_56 (by decide) (fun c15 => ?_) (fun c15 => ?_)
      · have hJ := ite_f c15 hJ
        refine lv_iconst (v := 0) hx hb dX4_readPolicy_63 (by decide) ?_
        obtain rfl := Option.some.inj hJ
        exact rw_zret hx hb hr hlocks rfl rfl hP hD hS dX4_readPolicy_64
      · have hJ := ite_t c15 hJ
        refine lv_iconst (v := 1) hx hb dX4_readPolicy_59 (by decide) ?_
        refine lv_goto (tgt := 64) hx hb dX4_readPolicy_60 (by decide) ?_
        obtain rfl := Option.some.inj hJ
        exact rw_zret hx hb hr hlocks rfl rfl hP hD hS dX4_readPolicy_64
    · have hJ := ite_t c10 hJ
      refine lv_iconst (v := 0) hx hb dX4_readPolicy_37 (by decide) ?_
      obtain rfl := Option.some.inj hJ
      exact rw_zret hx hb hr hlocks rfl rfl hP hD hS dX4_readPolicy_38
  · have hJ := ite_t c5 hJ
    refine lv_iconst (v := 0) hx hb dX4_readPolicy_20 (by decide) ?_
    obtain rfl := Option.some.inj hJ
    exact rw_zret hx hb hr hlocks rfl rfl hP hD hS dX4_readPolicy_21
theorem qX4_readStatement : (yX4_readStatement.cls = RX4) ∧ yX4_readStatement.cls ≠ "java/lang/invoke/MethodHandle" ∧ yX4_readStatement.cls ≠ "java/lang/invoke/VarHandle" ∧ (parseMethodDescriptor yX4_readStatement.desc).map (fun d => d.parameters.length) = some 1 := by decide +kernel
set_option maxHeartbeats 4000000 in
set_option maxRecDepth 100000 in
theorem c_X4_readStatement (fu : Nat) (l : Launch) (dC : Nat → ClassId) (dI : Nat → Nat → Nat) (K : KT) (kI : ClassId) (a : Nat → Nat) (r : RS) (h0 : Nat) (t0 : TS) (xa0 : Nat) (nx : Nat) (fx : Nat → Int32) (sz : Nat) (z : Int32 × RS × TS) (hJ : J_X4_readStatement fu r t0 nx fx = some z) : Met l yX4_readStatement wsX4_readStatement ({ frames := 5, cells := 0, slots := 0, locals := 107 }) (va_Pc [.ref (a 0), .ref h0] (RWc' K dC dI sz ((RWc a kI r) ++ (TWc h0 xa0 t0) ++ (AWc xa0 kI nx fx)) [(kI, .int)])) (rwQi dC dI (va_A ((RWc a kI r) ++ (TWc h0 xa0 t0) ++ (AWc xa0 kI nx fx)) sz) ((RWc a kI z.2.1) ++ (TWc h0 xa0 z.2.2) ++ (AWc xa0 kI nx fx)) z.1) 0 0 (va_A ((RWc a kI r) ++ (TWc h0 xa0 t0) ++ (AWc xa0 kI nx fx)) sz) := by
  refine rwc_start (Qc := fun A => rwQi dC dI A ((RWc a kI z.2.1) ++ (TWc h0 xa0 z.2.2) ++ (AWc xa0 kI nx fx)) z.1) (cc := cX4_readStatement) (maxL := 2) (ret := (some .boolean)) (by decide) rfl (Nat.le_of_ble_eq_true rfl) ?_
  intro p e s m args below meth c hx hb hr hml hown hts hlocks hNW hK A hA hCE H locs ls hP hD hS hl
  have hown : s.vm.findClass RX4 = some m.cls := hown
  have hl : lv_has ls 2 [(0, .ref (a 0)), (1, .ref h0)] := hl
  unfold J_X4_readStatement at hJ
  refine lv_aload_n hx hb dX4_readStatement_0 rfl (lv_at hl 1 rfl) ?_
  refine va_ldcS hx hb hown (hCE.2.1 (RX4, 74, "symbols", 4) (List.mem_of_getElem? (i := 4) rfl)) dX4_readStatement_1 ?_
  obtain ⟨z1, e2, hJ⟩ := bnd hJ
  refine roVic (As := [.ref (K.1 4)]) (rest := []) (ci := 6) (q0 := 0) hx hb hml hown hts (c_X6_isWord fu l dC dI K kI h0 t0 4 xa0 nx fx (by decide) z1 e2) gX4_readStatement_X6_isWord qX6_isWord rfl ⟨Nat.le_of_ble_eq_true rfl, Nat.le_of_ble_eq_true rfl⟩ ⟨rfl, rfl⟩ hNW hCE hK hP hS (hP.sub (ws' := (TWc h0 xa0 t0) ++ (AWc xa0 kI nx fx)) [2, 3] rfl) hK rfl rfl rfl hl.1 rfl rfl (Nat.le_of_ble_eq_true rfl) dX4_readStatement_3 z0 (fun H locs hP hS => ?_)
  refine lv_if_ne (tgt := 11) hx hb dX4_readStatement_6 (by decide) (fun c3 => ?_) (fun c3 => ?_)
  · have hJ := ite_f c3 hJ
    refine lv_aload_n hx hb dX4_readStatement_11 rfl (lv_at hl 1 rfl) ?_
    obtain ⟨z4, e5, hJ⟩ := bnd hJ
    refine rwVv (As := []) (rest := []) (wc := (TWc h0 xa0 t0) ++ (AWc xa0 kI nx fx)) (wc' := (TWc h0 xa0 z4) ++ (AWc xa0 kI nx fx)) (ws' := (RWc a kI r) ++ (TWc h0 xa0 z4) ++ (AWc xa0 kI nx fx)) (ci := 6) (q0 := 0) hx hb hml hown hts (c_X6_step fu l dC dI kI h0 t0 xa0 nx fx H.size z4 e5) gX4_readStatement_X6_step qX6_step rfl ⟨Nat.le_of_ble_eq_true rfl, Nat.le_of_ble_eq_true rfl⟩ ⟨rfl, rfl⟩ hNW hK hP hD hS hA [2, 3] [0, 1] rfl rfl (by decide) (by decide) (by decide) [0, 1, 2, 3] rfl (by decide) hK rfl rfl rfl hl.1 rfl rfl (Nat.le_of_ble_eq_true rfl) dX4_readStatement_12 z0 (fun H locs hP hD hS => ?_)
    refine lv_aload_n hx hb dX4_readStatement_15 rfl (lv_at hl 0 rfl) ?_
    refine lv_aload_n hx hb dX4_readStatement_16 rfl (lv_at hl 1 rfl) ?_
    obtain ⟨z6, e7, hJ⟩ := bnd hJ
    refine rwViW (As := [.ref h0]) (rest := []) (ci := 4) (q0 := 0) hx hb hml hown hts (c_X4_readLetters fu l dC dI kI a r h0 z4 xa0 nx fx H.size z6 e7) gX4_readStatement_X4_readLetters qX4_readLetters rfl ⟨Nat.le_of_ble_eq_true rfl, Nat.le_of_ble_eq_true rfl⟩ ⟨rfl, rfl⟩ hNW hK hP hD hS hA hK rfl rfl rfl hl.1 rfl rfl (Nat.le_of_ble_eq_true rfl) dX4_readStatement_17 z0 (fun H locs hP hD hS => ?_)
    refine lv_if_ne (tgt := 25) hx hb dX4_readStatement_20 (by decide) (fun c8 => ?_) (fun c8 => ?_)
    · have hJ := ite_f c8 hJ
      refine lv_aload_n hx hb dX4_readStatement_25 rfl (lv_at hl 1 rfl) ?_
      obtain ⟨z9, e10, hJ⟩ := bnd hJ
      refine rwVv (As := []) (rest := []) (wc := (TWc h0 xa0 z4) ++ (AWc xa0 kI nx fx)) (wc' := (TWc h0 xa0 z9) ++ (AWc xa0 kI nx fx)) (ws' := (RWc a kI z6.2) ++ (TWc h0 xa0 z9) ++ (AWc xa0 kI nx fx)) (ci := 6) (q0 := 0) hx hb hml hown hts (c_X6_step fu l dC dI kI h0 z4 xa0 nx fx H.size z9 e10) gX4_readStatement_X6_step qX6_step rfl ⟨Nat.le_of_ble_eq_true rfl, Nat.le_of_ble_eq_true rfl⟩ ⟨rfl, rfl⟩ hNW hK hP hD hS hA [2, 3] [0, 1] rfl rfl (by decide) (by decide) (by decide) [0, 1, 2, 3] rfl (by decide) hK rfl rfl rfl hl.1 rfl rfl (Nat.le_of_ble_eq_true rfl) dX4_readStatement_26 z0 (fun H locs hP hD hS => ?_)
      refine lv_aload_n hx hb dX4_readStatement_29 rfl (lv_at hl 1 rfl) ?_
      refine va_getN (D := (dC, dI)) (ci := 6) (v := .int (t_kind z9)) (C := RX6) (T := TX6) (N := 5) hx hb hts (fun _ h => List.mem_cons_of_mem _ (List.mem_append_left _ (List.mem_append_right _ h))) hown hK hP 2 rfl rfl 2 (by decide) (hNW.use (i := 34) rfl) (fun _ h9 => h9) rfl dX4_readStatement_30 ?_
      refine lv_iconst (v := 3) hx hb dX4_readStatement_33 (by decide) ?_
      refine lv_icmp_ne (tgt := 41) hx hb dX4_readStatement_34 (by decide) (fun c11 => ?_) (fun c11 => ?_)
      · have hJ := ite_f c11 hJ
        refine lv_iconst (v := 0) hx hb dX4_readStatement_41 (by decide) ?_
        obtain rfl := Option.some.inj hJ
        exact rw_zret hx hb hr hlocks rfl rfl hP hD hS dX4_readStatement_42
      · have hJ := ite_t c11 hJ
        refine lv_iconst (v := 1) hx hb dX4_readStatement_37 (by decide) ?_
        refine lv_goto (tgt := 42) hx hb dX4_readStatement_38 (by decide) ?_
        obtain rfl := Option.some.inj hJ
        exact rw_zret hx hb hr hlocks rfl rfl hP hD hS dX4_readStatement_42
    · have hJ := ite_t c8 hJ
      refine lv_iconst (v := 0) hx hb dX4_readStatement_23 (by decide) ?_
      obtain rfl := Option.some.inj hJ
      exact rw_zret hx hb hr hlocks rfl rfl hP hD hS dX4_readStatement_24
  · have hJ := ite_t c3 hJ
    refine lv_iconst (v := 0) hx hb dX4_readStatement_9 (by decide) ?_
    obtain rfl := Option.some.inj hJ
    exact rw_zret hx hb hr hlocks rfl rfl hP hD hS dX4_readStatement_10
theorem qX4_readStatements : (yX4_readStatements.cls = RX4) ∧ yX4_readStatements.cls ≠ "java/lang/invoke/MethodHandle" ∧ yX4_readStatements.cls ≠ "java/lang/invoke/VarHandle" ∧ (parseMethodDescriptor yX4_readStatements.desc).map (fun d => d.parameters.length) = some 1 := by decide +kernel
set_option maxHeartbeats 4000000 in
set_option maxRecDepth 100000 in
theorem c_X4_readStatements (fu : Nat) (l : Launch) (dC : Nat → ClassId) (dI : Nat → Nat → Nat) (K : KT) (kI : ClassId) (a : Nat → Nat) (r : RS) (h0 : Nat) (t0 : TS) (xa0 : Nat) (nx : Nat) (fx : Nat → Int32) (sz : Nat) (z : Int32 × RS × TS) (hJ : J_X4_readStatements fu r t0 nx fx = some z) : Met l yX4_readStatements wsX4_readStatements ({ frames := 6, cells := 0, slots := 0, locals := 128 }) (va_Pc [.ref (a 0), .ref h0] (RWc' K dC dI sz ((RWc a kI r) ++ (TWc h0 xa0 t0) ++ (AWc xa0 kI nx fx)) [(kI, .int)])) (rwQi dC dI (va_A ((RWc a kI r) ++ (TWc h0 xa0 t0) ++ (AWc xa0 kI nx fx)) sz) ((RWc a kI z.2.1) ++ (TWc h0 xa0 z.2.2) ++ (AWc xa0 kI nx fx)) z.1) 0 0 (va_A ((RWc a kI r) ++ (TWc h0 xa0 t0) ++ (AWc xa0 kI nx fx)) sz) := by
  refine rwc_start (Qc := fun A => rwQi dC dI A ((RWc a kI z.2.1) ++ (TWc h0 xa0 z.2.2) ++ (AWc xa0 kI nx fx)) z.1) (cc := cX4_readStatements) (maxL := 3) (ret := (some .boolean)) (by decide) rfl (Nat.le_of_ble_eq_true rfl) ?_
  intro p e s m args below meth c hx hb hr hml hown hts hlocks hNW hK A hA hCE H locs ls hP hD hS hl
  have hown : s.vm.findClass RX4 = some m.cls := hown
  have hl : lv_has ls 3 [(0, .ref (a 0)), (1, .ref h0)] := hl
  unfold J_X4_readStatements at hJ
  have L40 : ∀ (r : RS) (t0 : TS) (H : Heap) (locs : List Loc) (ls : Array Slot), va_P (dC, dI) vwCl ((RWc a kI r) ++ (TWc h0 xa0 t0) ++ (AWc xa0 kI nx fx)) H → va_D A ((RWc a kI r) ++ (TWc h0 xa0 t0) ++ (AWc xa0 kI nx fx)) → va_S A s.heap H locs → lv_has ls 3 [(1, .ref h0)] → J_X4_readStatements_b40 fu nx fx r t0 = some z → W p l e ({ frames := 6, cells := 0, slots := 0, locals := 128 }) s m args below meth c H locs 0 0 (MQ below (rwQi dC dI A ((RWc a kI z.2.1) ++ (TWc h0 xa0 z.2.2) ++ (AWc xa0 kI nx fx)) z.1) args s 0 0 (A)) (F0 m 40 ls []) := by
    intro r t0 H locs ls hP hD hS hl hJ
    unfold J_X4_readStatements_b40 at hJ
    refine lv_aload_n hx hb dX4_readStatements_40 rfl (lv_at hl 0 rfl) ?_
    refine va_getN (D := (dC, dI)) (ci := 6) (v := .int (t_kind t0)) (C := RX6) (T := TX6) (N := 5) hx hb hts (fun _ h => List.mem_cons_of_mem _ (List.mem_append_left _ (List.mem_append_right _ h))) hown hK hP 2 rfl rfl 2 (by decide) (hNW.use (i := 34) rfl) (fun _ h9 => h9) rfl dX4_readStatements_41 ?_
    refine lv_if_ne (tgt := 51) hx hb dX4_readStatements_44 (by decide) (fun c10 => ?_) (fun c10 => ?_)
    · have hJ := ite_f c10 hJ
      refine lv_iconst (v := 0) hx hb dX4_readStatements_51 (by decide) ?_
      obtain rfl := Option.some.inj hJ
      exact rw_zret hx hb hr hlocks rfl rfl hP hD hS dX4_readStatements_52
    · have hJ := ite_t c10 hJ
      refine lv_iconst (v := 1) hx hb dX4_readStatements_47 (by decide) ?_
      refine lv_goto (tgt := 52) hx hb dX4_readStatements_48 (by decide) ?_
      obtain rfl := Option.some.inj hJ
      exact rw_zret hx hb hr hlocks rfl rfl hP hD hS dX4_readStatements_52
  have L6 : ∀ (n : Nat) (r : RS) (t0 : TS) (y2 : Int32) (H : Heap) (locs : List Loc) (ls : Array Slot), va_P (dC, dI) vwCl ((RWc a kI r) ++ (TWc h0 xa0 t0) ++ (AWc xa0 kI nx fx)) H → va_D A ((RWc a kI r) ++ (TWc h0 xa0 t0) ++ (AWc xa0 kI nx fx)) → va_S A s.heap H locs → lv_has ls 3 [(0, .ref (a 0)), (1, .ref h0), (2, .int y2)] → J_X4_readStatements_b6 fu nx fx n r t0 y2 = some z → W p l e ({ frames := 6, cells := 0, slots := 0, locals := 128 }) s m args below meth c H locs 0 0 (MQ below (rwQi dC dI A ((RWc a kI z.2.1) ++ (TWc h0 xa0 z.2.2) ++ (AWc xa0 kI nx fx)) z.1) args s 0 0 (A)) (F0 m 6 ls []) := by
    intro n
    induction n with
    | zero =>
      intro r t0 y2 H locs ls hP hD hS hl hJ
      rw [J_X4_readStatements_b6] at hJ; cases hJ
    | succ n ih =>
      intro r t0 y2 H locs ls hP hD hS hl hJ
      rw [J_X4_readStatements_b6] at hJ
      refine lv_iload_n hx hb dX4_readStatements_6 rfl (lv_at hl 2 rfl) ?_
      refine lv_sipush (v := 800) hx hb dX4_readStatements_7 (by decide) ?_
      refine lv_icmp_ge (tgt := 40) hx hb dX4_readStatements_10 (by decide) (fun c3 => ?_) (fun c3 => ?_)
      · have hJ := ite_t c3 hJ
        exact L40 r t0 H locs ls hP hD hS (lv_sub hl [1] rfl) hJ
      · have hJ := ite_f c3 hJ
        refine lv_aload_n hx hb dX4_readStatements_13 rfl (lv_at hl 1 rfl) ?_
        refine va_getN (D := (dC, dI)) (ci := 6) (v := .int (t_kind t0)) (C := RX6) (T := TX6) (N := 5) hx hb hts (fun _ h => List.mem_cons_of_mem _ (List.mem_append_left _ (List.mem_append_right _ h))) hown hK hP 2 rfl rfl 2 (by decide) (hNW.use (i := 34) rfl) (fun _ h9 => h9) rfl dX4_readStatements_14 ?_
        refine lv_if_eq (tgt := 40) hx hb dX4_readStatements_17 (by decide) (fun c4 => ?_) (fun c4 => ?_)
        · have hJ := ite_t c4 hJ
          exact L40 r t0 H locs ls hP hD hS (lv_sub hl [1] rfl) hJ
        · have hJ := ite_f c4 hJ
          refine lv_aload_n hx hb dX4_readStatements_20 rfl (lv_at hl 0 rfl) ?_
          refine lv_aload_n hx hb dX4_readStatements_21 rfl (lv_at hl 1 rfl) ?_
          obtain ⟨z5, e6, hJ⟩ := bnd hJ
          refine rwViWc (As := [.ref h0]) (rest := []) (ci := 4) (q0 := 0) hx hb hml hown hts (c_X4_readStatement fu l dC dI K kI a r h0 t0 xa0 nx fx H.size z5 e6) gX4_readStatements_X4_readStatement qX4_readStatement rfl ⟨Nat.le_of_ble_eq_true rfl, Nat.le_of_ble_eq_true rfl⟩ ⟨rfl, rfl⟩ hNW hCE hK hP hD hS hA hK rfl rfl rfl hl.1 rfl rfl (Nat.le_of_ble_eq_true rfl) dX4_readStatements_22 z0 (fun H locs hP hD hS => ?_)
          refine lv_if_ne (tgt := 30) hx hb dX4_readStatements_25 (by decide) (fun c7 => ?_) (fun c7 => ?_)
          · have hJ := ite_f c7 hJ
            refine lv_aload_n hx hb dX4_readStatements_30 rfl (lv_at hl 1 rfl) ?_
            obtain ⟨z8, e9, hJ⟩ := bnd hJ
            refine rwVv (As := []) (rest := []) (wc := (TWc h0 xa0 z5.2.2) ++ (AWc xa0 kI nx fx)) (wc' := (TWc h0 xa0 z8) ++ (AWc xa0 kI nx fx)) (ws' := (RWc a kI z5.2.1) ++ (TWc h0 xa0 z8) ++ (AWc xa0 kI nx fx)) (ci := 6) (q0 := 0) hx hb hml hown hts (c_X6_step fu l dC dI kI h0 z5.2.2 xa0 nx fx H.size z8 e9) gX4_readStatements_X6_step qX6_step rfl ⟨Nat.le_of_ble_eq_true rfl, Nat.le_of_ble_eq_true rfl⟩ ⟨rfl, rfl⟩ hNW hK hP hD hS hA [2, 3] [0, 1] rfl rfl (by decide) (by decide) (by decide) [0, 1, 2, 3] rfl (by decide) hK rfl rfl rfl hl.1 rfl rfl (Nat.le_of_ble_eq_true rfl) dX4_readStatements_31 z0 (fun H locs hP hD hS => ?_)
            refine lv_iinc (v := y2 + 1) (lv' := [(2, .int (y2 + 1)), (0, .ref (a 0)), (1, .ref h0)]) hx hb dX4_readStatements_34 hl (k := 2) rfl rfl (by decide) rfl (fun ls hl => ?_)
            refine lv_goto (tgt := 6) hx hb dX4_readStatements_37 (by decide) ?_
            exact ih z5.2.1 z8 (y2 + 1) H locs ls hP hD hS (lv_sub hl [1, 2, 0] rfl) hJ
          · have hJ := ite_t c7 hJ
            refine lv_iconst (v := 0) hx hb dX4_readStatements_28 (by decide) ?_
            obtain rfl := Option.some.inj hJ
            exact rw_zret hx hb hr hlocks rfl rfl hP hD hS dX4_readStatements_29
  refine lv_aload_n hx hb dX4_readStatements_0 rfl (lv_at hl 1 rfl) ?_
  obtain ⟨z1, e2, hJ⟩ := bnd hJ
  refine rwVv (As := []) (rest := []) (wc := (TWc h0 xa0 t0) ++ (AWc xa0 kI nx fx)) (wc' := (TWc h0 xa0 z1) ++ (AWc xa0 kI nx fx)) (ws' := (RWc a kI r) ++ (TWc h0 xa0 z1) ++ (AWc xa0 kI nx fx)) (ci := 6) (q0 := 0) hx hb hml hown hts (c_X6_step fu l dC dI kI h0 t0 xa0 nx fx H.size z1 e2) gX4_readStatements_X6_step qX6_step rfl ⟨Nat.le_of_ble_eq_true rfl, Nat.le_of_ble_eq_true rfl⟩ ⟨rfl, rfl⟩ hNW hK hP hD hS hA [2, 3] [0, 1] rfl rfl (by decide) (by decide) (by decide) [0, 1, 2, 3] rfl (by decide) hK rfl rfl rfl hl.1 rfl rfl (Nat.le_of_ble_eq_true rfl) dX4_readStatements_1 z0 (fun H locs hP hD hS => ?_)
  refine lv_iconst (v := 0) hx hb dX4_readStatements_4 (by decide) ?_
  refine lv_istore_n (lv' := [(2, .int (0 : Int32)), (0, .ref (a 0)), (1, .ref h0)]) hx hb dX4_readStatements_5 rfl hl (by decide) rfl (fun ls hl => ?_)
  exact L6 fu r z1 (0 : Int32) H locs ls hP hD hS (lv_sub hl [1, 2, 0] rfl) hJ
theorem qX4_readSetup : (yX4_readSetup.cls = RX4) ∧ yX4_readSetup.cls ≠ "java/lang/invoke/MethodHandle" ∧ yX4_readSetup.cls ≠ "java/lang/invoke/VarHandle" ∧ (parseMethodDescriptor yX4_readSetup.desc).map (fun d => d.parameters.length) = some 1 := by decide +kernel
set_option maxHeartbeats 4000000 in
set_option maxRecDepth 100000 in
theorem c_X4_readSetup (fu : Nat) (l : Launch) (dC : Nat → ClassId) (dI : Nat → Nat → Nat) (K : KT) (kI : ClassId) (a : Nat → Nat) (r : RS) (h0 : Nat) (t0 : TS) (xa0 : Nat) (nx : Nat) (fx : Nat → Int32) (sz : Nat) (z : Int32 × RS × TS) (hJ : J_X4_readSetup fu r t0 nx fx = some z) : Met l yX4_readSetup wsX4_readSetup ({ frames := 7, cells := 0, slots := 0, locals := 150 }) (va_Pc [.ref (a 0), .ref h0] (RWc' K dC dI sz ((RWc a kI r) ++ (TWc h0 xa0 t0) ++ (AWc xa0 kI nx fx)) [(kI, .int)])) (rwQi dC dI (va_A ((RWc a kI r) ++ (TWc h0 xa0 t0) ++ (AWc xa0 kI nx fx)) sz) ((RWc a kI z.2.1) ++ (TWc h0 xa0 z.2.2) ++ (AWc xa0 kI nx fx)) z.1) 0 0 (va_A ((RWc a kI r) ++ (TWc h0 xa0 t0) ++ (AWc xa0 kI nx fx)) sz) := by
  refine rwc_start (Qc := fun A => rwQi dC dI A ((RWc a kI z.2.1) ++ (TWc h0 xa0 z.2.2) ++ (AWc xa0 kI nx fx)) z.1) (cc := cX4_readSetup) (maxL := 2) (ret := (some .boolean)) (by decide) rfl (Nat.le_of_ble_eq_true rfl) ?_
  intro p e s m args below meth c hx hb hr hml hown hts hlocks hNW hK A hA hCE H locs ls hP hD hS hl
  have hown : s.vm.findClass RX4 = some m.cls := hown
  have hl : lv_has ls 2 [(0, .ref (a 0)), (1, .ref h0)] := hl
  unfold J_X4_readSetup at hJ
  refine lv_aload_n hx hb dX4_readSetup_0 rfl (lv_at hl 0 rfl) ?_
  refine lv_iconst (v := 0) hx hb dX4_readSetup_1 (by decide) ?_
  refine va_put (D := (dC, dI)) (ci := 4) (v := .int (0 : Int32)) (ty := .int) (C := RX4) (T := TX4) (N := 6) hx hb hts (fun _ h => List.mem_cons_of_mem _ (List.mem_append_left _ (List.mem_append_right _ h))) tyX4 tyX4_ok nmX4 hown hK hP hD hS 0 rfl rfl 5 (by decide) (hts _ (List.mem_of_getElem? (i := 1) rfl)) (fun _ h9 => h9) rfl (by decide +kernel) rfl rfl (Nat.le_of_ble_eq_true rfl) dX4_readSetup_2 (fun H locs hP hD hS => ?_)
  have hP : va_P (dC, dI) vwCl ((RWc a kI (mkR (r_alphabet r) (r_width r) (r_policy r) (r_limit r) (r_symbols r) (0 : Int32))) ++ (TWc h0 xa0 t0) ++ (AWc xa0 kI nx fx)) H := hP
  have hD : va_D A ((RWc a kI (mkR (r_alphabet r) (r_width r) (r_policy r) (r_limit r) (r_symbols r) (0 : Int32))) ++ (TWc h0 xa0 t0) ++ (AWc xa0 kI nx fx)) := hD
  refine lv_aload_n hx hb dX4_readSetup_5 rfl (lv_at hl 0 rfl) ?_
  refine lv_aload_n hx hb dX4_readSetup_6 rfl (lv_at hl 1 rfl) ?_
  obtain ⟨z1, e2, hJ⟩ := bnd hJ
  refine rwViWc (As := [.ref h0]) (rest := []) (ci := 4) (q0 := 0) hx hb hml hown hts (c_X4_readSizes fu l dC dI K kI a (mkR (r_alphabet r) (r_width r) (r_policy r) (r_limit r) (r_symbols r) (0 : Int32)) h0 t0 xa0 nx fx H.size z1 e2) gX4_readSetup_X4_readSizes qX4_readSizes rfl ⟨Nat.le_of_ble_eq_true rfl, Nat.le_of_ble_eq_true rfl⟩ ⟨rfl, rfl⟩ hNW hCE hK hP hD hS hA hK rfl rfl rfl hl.1 rfl rfl (Nat.le_of_ble_eq_true rfl) dX4_readSetup_7 z0 (fun H locs hP hD hS => ?_)
  refine lv_if_eq (tgt := 33) hx hb dX4_readSetup_10 (by decide) (fun c3 => ?_) (fun c3 => ?_)
  · have hJ := ite_t c3 hJ
    refine lv_iconst (v := 0) hx hb dX4_readSetup_33 (by decide) ?_
    obtain rfl := Option.some.inj hJ
    exact rw_zret hx hb hr hlocks rfl rfl hP hD hS dX4_readSetup_34
  · have hJ := ite_f c3 hJ
    refine lv_aload_n hx hb dX4_readSetup_13 rfl (lv_at hl 0 rfl) ?_
    refine lv_aload_n hx hb dX4_readSetup_14 rfl (lv_at hl 1 rfl) ?_
    obtain ⟨z4, e5, hJ⟩ := bnd hJ
    refine rwViWc (As := [.ref h0]) (rest := []) (ci := 4) (q0 := 0) hx hb hml hown hts (c_X4_readPolicy fu l dC dI K kI a z1.2.1 h0 z1.2.2 xa0 nx fx H.size z4 e5) gX4_readSetup_X4_readPolicy qX4_readPolicy rfl ⟨Nat.le_of_ble_eq_true rfl, Nat.le_of_ble_eq_true rfl⟩ ⟨rfl, rfl⟩ hNW hCE hK hP hD hS hA hK rfl rfl rfl hl.1 rfl rfl (Nat.le_of_ble_eq_true rfl) dX4_readSetup_15 z0 (fun H locs hP hD hS => ?_)
    refine lv_if_eq (tgt := 33) hx hb dX4_readSetup_18 (by decide) (fun c6 => ?_) (fun c6 => ?_)
    · have hJ := ite_t c6 hJ
      refine lv_iconst (v := 0) hx hb dX4_readSetup_33 (by decide) ?_
      obtain rfl := Option.some.inj hJ
      exact rw_zret hx hb hr hlocks rfl rfl hP hD hS dX4_readSetup_34
    · have hJ := ite_f c6 hJ
      refine lv_aload_n hx hb dX4_readSetup_21 rfl (lv_at hl 0 rfl) ?_
      refine lv_aload_n hx hb dX4_readSetup_22 rfl (lv_at hl 1 rfl) ?_
      obtain ⟨z7, e8, hJ⟩ := bnd hJ
      refine rwViWc (As := [.ref h0]) (rest := []) (ci := 4) (q0 := 0) hx hb hml hown hts (c_X4_readStatements fu l dC dI K kI a z4.2.1 h0 z4.2.2 xa0 nx fx H.size z7 e8) gX4_readSetup_X4_readStatements qX4_readStatements rfl ⟨Nat.le_of_ble_eq_true rfl, Nat.le_of_ble_eq_true rfl⟩ ⟨rfl, rfl⟩ hNW hCE hK hP hD hS hA hK rfl rfl rfl hl.1 rfl rfl (Nat.le_of_ble_eq_true rfl) dX4_readSetup_23 z0 (fun H locs hP hD hS => ?_)
      refine lv_if_eq (tgt := 33) hx hb dX4_readSetup_26 (by decide) (fun c9 => ?_) (fun c9 => ?_)
      · have hJ := ite_t c9 hJ
        refine lv_iconst (v := 0) hx hb dX4_readSetup_33 (by decide) ?_
        obtain rfl := Option.some.inj hJ
        exact rw_zret hx hb hr hlocks rfl rfl hP hD hS dX4_readSetup_34
      · have hJ := ite_f c9 hJ
        refine lv_iconst (v := 1) hx hb dX4_readSetup_29 (by decide) ?_
        refine lv_goto (tgt := 34) hx hb dX4_readSetup_30 (by decide) ?_
        obtain rfl := Option.some.inj hJ
        exact rw_zret hx hb hr hlocks rfl rfl hP hD hS dX4_readSetup_34
theorem qX3_forget : (yX3_forget.cls = RX3) ∧ yX3_forget.cls ≠ "java/lang/invoke/MethodHandle" ∧ yX3_forget.cls ≠ "java/lang/invoke/VarHandle" ∧ (parseMethodDescriptor yX3_forget.desc).map (fun d => d.parameters.length) = some 0 := by decide +kernel
set_option maxHeartbeats 4000000 in
set_option maxRecDepth 100000 in
theorem c_X3_forget (l : Launch) (dC : Nat → ClassId) (dI : Nat → Nat → Nat) (kI kE : ClassId) (ha : Nat → Nat) (ux : Nat → Nat → Nat) (uy : Nat → Nat → Nat) (hh : HS) (sz : Nat) (z : HS) (hJ : J_X3_forget hh = some z) : Met l yX3_forget wsX3_forget ({ frames := 0, cells := 0, slots := 0, locals := 0 }) (va_Pc [.ref (ha 0)] (RWp dC dI sz (HWc ha ux uy kE kI hh) [(kI, .int), (kE, .object "LzwCodec$Encoder")])) (rwQv dC dI (va_A (HWc ha ux uy kE kI hh) sz) (HWc ha ux uy kE kI z)) 0 0 (va_A (HWc ha ux uy kE kI hh) sz) := by
  refine rw_start (Qc := fun A => rwQv dC dI A (HWc ha ux uy kE kI z)) (cc := cX3_forget) (maxL := 1) (ret := none) (by decide) rfl (Nat.le_of_ble_eq_true rfl) ?_
  intro p e s m args below meth c hx hb hr hml hown hts hlocks hNW hK A hA H locs ls hP hD hS hl
  have hown : s.vm.findClass RX3 = some m.cls := hown
  have hl : lv_has ls 1 [(0, .ref (ha 0))] := hl
  unfold J_X3_forget at hJ
  refine lv_aload_n hx hb dX3_forget_0 rfl (lv_at hl 0 rfl) ?_
  refine lv_iconst (v := 0) hx hb dX3_forget_1 (by decide) ?_
  refine va_put (D := (dC, dI)) (ci := 3) (v := .int (0 : Int32)) (ty := .int) (C := RX3) (T := TX3) (N := 4) hx hb hts (fun _ h => List.mem_cons_of_mem _ (List.mem_append_right _ h)) tyX3 tyX3_ok nmX3 hown hK hP hD hS 0 rfl rfl 1 (by decide) (hts _ (List.mem_of_getElem? (i := 1) rfl)) (fun _ h9 => h9) rfl (by decide +kernel) rfl rfl (Nat.le_of_ble_eq_true rfl) dX3_forget_2 (fun H locs hP hD hS => ?_)
  have hP : va_P (dC, dI) vwCl (HWc ha ux uy kE kI (mkH (h_states hh) (0 : Int32) (h_undoNext hh) (h_undoCount hh))) H := hP
  have hD : va_D A (HWc ha ux uy kE kI (mkH (h_states hh) (0 : Int32) (h_undoNext hh) (h_undoCount hh))) := hD
  refine lv_aload_n hx hb dX3_forget_5 rfl (lv_at hl 0 rfl) ?_
  refine lv_iconst (v := 0) hx hb dX3_forget_6 (by decide) ?_
  refine va_put (D := (dC, dI)) (ci := 3) (v := .int (0 : Int32)) (ty := .int) (C := RX3) (T := TX3) (N := 4) hx hb hts (fun _ h => List.mem_cons_of_mem _ (List.mem_append_right _ h)) tyX3 tyX3_ok nmX3 hown hK hP hD hS 0 rfl rfl 3 (by decide) (hts _ (List.mem_of_getElem? (i := 2) rfl)) (fun _ h9 => h9) rfl (by decide +kernel) rfl rfl (Nat.le_of_ble_eq_true rfl) dX3_forget_7 (fun H locs hP hD hS => ?_)
  have hP : va_P (dC, dI) vwCl (HWc ha ux uy kE kI (mkH (h_states hh) (0 : Int32) (h_undoNext hh) (0 : Int32))) H := hP
  have hD : va_D A (HWc ha ux uy kE kI (mkH (h_states hh) (0 : Int32) (h_undoNext hh) (0 : Int32))) := hD
  obtain rfl := Option.some.inj hJ
  exact rw_vret hx hb hr hlocks hP hD hS dX3_forget_10
theorem qX3_remember : (yX3_remember.cls = RX3) ∧ yX3_remember.cls ≠ "java/lang/invoke/MethodHandle" ∧ yX3_remember.cls ≠ "java/lang/invoke/VarHandle" ∧ (parseMethodDescriptor yX3_remember.desc).map (fun d => d.parameters.length) = some 1 := by decide +kernel
set_option maxHeartbeats 4000000 in
set_option maxRecDepth 100000 in
theorem c_X3_remember (l : Launch) (dC : Nat → ClassId) (dI : Nat → Nat → Nat) (kI kE : ClassId) (ha : Nat → Nat) (ux : Nat → Nat → Nat) (uy : Nat → Nat → Nat) (hh : HS) (a0 : Nat → Nat) (b0 : Nat → Nat) (ee0 : ES) (sz : Nat) (z : HS) (hJ : J_X3_remember hh ee0 = some z) : Met l yX3_remember wsX3_remember ({ frames := 5, cells := 0, slots := 0, locals := 223 }) (va_Pc [.ref (ha 0), .ref (a0 0)] (RWp dC dI sz ((HWc ha ux uy kE kI hh) ++ (EWc a0 b0 kI ee0)) [(kI, .int), (kE, .object "LzwCodec$Encoder")])) (rwQv dC dI (va_A ((HWc ha ux uy kE kI hh) ++ (EWc a0 b0 kI ee0)) sz) ((HWc ha ux uy kE kI z) ++ (EWc a0 b0 kI ee0))) 0 0 (va_A ((HWc ha ux uy kE kI hh) ++ (EWc a0 b0 kI ee0)) sz) := by
  refine rw_start (Qc := fun A => rwQv dC dI A ((HWc ha ux uy kE kI z) ++ (EWc a0 b0 kI ee0))) (cc := cX3_remember) (maxL := 2) (ret := none) (by decide) rfl (Nat.le_of_ble_eq_true rfl) ?_
  intro p e s m args below meth c hx hb hr hml hown hts hlocks hNW hK A hA H locs ls hP hD hS hl
  have hown : s.vm.findClass RX3 = some m.cls := hown
  have hl : lv_has ls 2 [(0, .ref (ha 0)), (1, .ref (a0 0))] := hl
  unfold J_X3_remember at hJ
  have L33 : ∀ (hh : HS) (k1 : Int32) (H : Heap) (locs : List Loc) (ls : Array Slot), va_P (dC, dI) vwCl ((HWc ha ux uy kE kI hh) ++ (EWc a0 b0 kI ee0)) H → va_D A ((HWc ha ux uy kE kI hh) ++ (EWc a0 b0 kI ee0)) → va_S A s.heap H locs → lv_has ls 2 [(0, .ref (ha 0))] → J_X3_remember_b33 ee0 hh k1 = some z → W p l e ({ frames := 5, cells := 0, slots := 0, locals := 223 }) s m args below meth c H locs 0 0 (MQ below (rwQv dC dI A ((HWc ha ux uy kE kI z) ++ (EWc a0 b0 kI ee0))) args s 0 0 (A)) (F0 m 33 ls [.int k1, .ref (ha 0)]) := by
    intro hh k1 H locs ls hP hD hS hl hJ
    unfold J_X3_remember_b33 at hJ
    refine va_put (D := (dC, dI)) (ci := 3) (v := .int k1) (ty := .int) (C := RX3) (T := TX3) (N := 4) hx hb hts (fun _ h => List.mem_cons_of_mem _ (List.mem_append_left _ (List.mem_append_left _ (List.mem_append_right _ h)))) tyX3 tyX3_ok nmX3 hown hK hP hD hS 0 rfl rfl 2 (by decide) (hts _ (List.mem_of_getElem? (i := 1) rfl)) (fun _ h9 => h9) rfl (by decide +kernel) rfl rfl (Nat.le_of_ble_eq_true rfl) dX3_remember_33 (fun H locs hP hD hS => ?_)
    have hP : va_P (dC, dI) vwCl ((HWc ha ux uy kE kI (mkH (h_states hh) (h_savedSlots hh) k1 (h_undoCount hh))) ++ (EWc a0 b0 kI ee0)) H := hP
    have hD : va_D A ((HWc ha ux uy kE kI (mkH (h_states hh) (h_savedSlots hh) k1 (h_undoCount hh))) ++ (EWc a0 b0 kI ee0)) := hD
    refine lv_aload_n hx hb dX3_remember_36 rfl (lv_at hl 0 rfl) ?_
    refine lv_aload_n hx hb dX3_remember_37 rfl (lv_at hl 0 rfl) ?_
    refine va_get (D := (dC, dI)) (ci := 3) (v := .int (h_undoCount hh)) (C := RX3) (T := TX3) (N := 4) hx hb hts (fun _ h => List.mem_cons_of_mem _ (List.mem_append_left _ (List.mem_append_left _ (List.mem_append_right _ h)))) hown hK hP 0 rfl rfl 3 (by decide) (hts _ (List.mem_of_getElem? (i := 2) rfl)) (fun _ h9 => h9) rfl dX3_remember_38 ?_
    refine lv_iconst (v := 1) hx hb dX3_remember_41 (by decide) ?_
    refine lv_iadd hx hb dX3_remember_42 ?_
    refine lv_bipush (v := 8) hx hb dX3_remember_43 (by decide) ?_
    refine va_mmin hx hb (hml.trans hl.1.symm) hown (hts _ (List.mem_of_getElem? (i := 3) rfl)) (hts _ (List.mem_of_getElem? (i := 4) rfl)) (hts _ (List.mem_of_getElem? (i := 5) rfl)) (hts _ (List.mem_of_getElem? (i := 6) rfl)) (Nat.le_of_ble_eq_true rfl) (Nat.le_of_ble_eq_true rfl) (Nat.zero_le _) (Nat.zero_le _) dX3_remember_45 ?_
    refine va_put (D := (dC, dI)) (ci := 3) (v := .int (if (8 : Int32) < ((h_undoCount hh) + (1 : Int32)) then (8 : Int32) else ((h_undoCount hh) + (1 : Int32)))) (ty := .int) (C := RX3) (T := TX3) (N := 4) hx hb hts (fun _ h => List.mem_cons_of_mem _ (List.mem_append_left _ (List.mem_append_left _ (List.mem_append_right _ h)))) tyX3 tyX3_ok nmX3 hown hK hP hD hS 0 rfl rfl 3 (by decide) (hts _ (List.mem_of_getElem? (i := 2) rfl)) (fun _ h9 => h9) rfl (by decide +kernel) rfl rfl (Nat.le_of_ble_eq_true rfl) dX3_remember_48 (fun H locs hP hD hS => ?_)
    have hP : va_P (dC, dI) vwCl ((HWc ha ux uy kE kI (mkH (h_states hh) (h_savedSlots hh) k1 (if (8 : Int32) < ((h_undoCount hh) + (1 : Int32)) then (8 : Int32) else ((h_undoCount hh) + (1 : Int32))))) ++ (EWc a0 b0 kI ee0)) H := hP
    have hD : va_D A ((HWc ha ux uy kE kI (mkH (h_states hh) (h_savedSlots hh) k1 (if (8 : Int32) < ((h_undoCount hh) + (1 : Int32)) then (8 : Int32) else ((h_undoCount hh) + (1 : Int32))))) ++ (EWc a0 b0 kI ee0)) := hD
    obtain rfl := Option.some.inj hJ
    exact rw_vret hx hb hr hlocks hP hD hS dX3_remember_51
  refine lv_aload_n hx hb dX3_remember_0 rfl (lv_at hl 0 rfl) ?_
  refine lv_iconst (v := 2) hx hb dX3_remember_1 (by decide) ?_
  refine lv_aload_n hx hb dX3_remember_2 rfl (lv_at hl 0 rfl) ?_
  refine va_get (D := (dC, dI)) (ci := 3) (v := .int (h_undoNext hh)) (C := RX3) (T := TX3) (N := 4) hx hb hts (fun _ h => List.mem_cons_of_mem _ (List.mem_append_left _ (List.mem_append_left _ (List.mem_append_right _ h)))) hown hK hP 0 rfl rfl 2 (by decide) (hts _ (List.mem_of_getElem? (i := 1) rfl)) (fun _ h9 => h9) rfl dX3_remember_3 ?_
  refine lv_iadd hx hb dX3_remember_6 ?_
  refine lv_aload_n hx hb dX3_remember_7 rfl (lv_at hl 1 rfl) ?_
  obtain ⟨z1, e2, hJ⟩ := bnd hJ
  refine rwVvW (As := [.int ((2 : Int32) + (h_undoNext hh)), .ref (a0 0)]) (rest := []) (ci := 3) (q0 := 0) hx hb hml hown hts (c_X3_copyTo l dC dI kI kE ha ux uy hh ((2 : Int32) + (h_undoNext hh)) a0 b0 ee0 H.size z1 e2) gX3_remember_X3_copyTo qX3_copyTo rfl ⟨Nat.le_of_ble_eq_true rfl, Nat.le_of_ble_eq_true rfl⟩ ⟨rfl, rfl⟩ hNW hK hP hD hS hA hK rfl rfl rfl hl.1 rfl rfl (Nat.le_of_ble_eq_true rfl) dX3_remember_8 z0 (fun H locs hP hD hS => ?_)
  refine lv_aload_n hx hb dX3_remember_11 rfl (lv_at hl 0 rfl) ?_
  refine lv_aload_n hx hb dX3_remember_12 rfl (lv_at hl 0 rfl) ?_
  refine va_get (D := (dC, dI)) (ci := 3) (v := .int (h_undoNext z1)) (C := RX3) (T := TX3) (N := 4) hx hb hts (fun _ h => List.mem_cons_of_mem _ (List.mem_append_left _ (List.mem_append_left _ (List.mem_append_right _ h)))) hown hK hP 0 rfl rfl 2 (by decide) (hts _ (List.mem_of_getElem? (i := 1) rfl)) (fun _ h9 => h9) rfl dX3_remember_13 ?_
  refine lv_iconst (v := 1) hx hb dX3_remember_16 (by decide) ?_
  refine lv_iadd hx hb dX3_remember_17 ?_
  refine lv_bipush (v := 8) hx hb dX3_remember_18 (by decide) ?_
  refine lv_icmp_ge (tgt := 32) hx hb dX3_remember_20 (by decide) (fun c3 => ?_) (fun c3 => ?_)
  · have hJ := ite_t c3 hJ
    refine lv_iconst (v := 0) hx hb dX3_remember_32 (by decide) ?_
    exact L33 z1 (0 : Int32) H locs ls hP hD hS (lv_sub hl [0] rfl) hJ
  · have hJ := ite_f c3 hJ
    refine lv_aload_n hx hb dX3_remember_23 rfl (lv_at hl 0 rfl) ?_
    refine va_get (D := (dC, dI)) (ci := 3) (v := .int (h_undoNext z1)) (C := RX3) (T := TX3) (N := 4) hx hb hts (fun _ h => List.mem_cons_of_mem _ (List.mem_append_left _ (List.mem_append_left _ (List.mem_append_right _ h)))) hown hK hP 0 rfl rfl 2 (by decide) (hts _ (List.mem_of_getElem? (i := 1) rfl)) (fun _ h9 => h9) rfl dX3_remember_24 ?_
    refine lv_iconst (v := 1) hx hb dX3_remember_27 (by decide) ?_
    refine lv_iadd hx hb dX3_remember_28 ?_
    refine lv_goto (tgt := 33) hx hb dX3_remember_29 (by decide) ?_
    exact L33 z1 ((h_undoNext z1) + (1 : Int32)) H locs ls hP hD hS (lv_sub hl [0] rfl) hJ
theorem qX3_saveIn : (yX3_saveIn.cls = RX3) ∧ yX3_saveIn.cls ≠ "java/lang/invoke/MethodHandle" ∧ yX3_saveIn.cls ≠ "java/lang/invoke/VarHandle" ∧ (parseMethodDescriptor yX3_saveIn.desc).map (fun d => d.parameters.length) = some 2 := by decide +kernel
set_option maxHeartbeats 4000000 in
set_option maxRecDepth 100000 in
theorem c_X3_saveIn (l : Launch) (dC : Nat → ClassId) (dI : Nat → Nat → Nat) (kI kE : ClassId) (ha : Nat → Nat) (ux : Nat → Nat → Nat) (uy : Nat → Nat → Nat) (hh : HS) (p0 : Int32) (a1 : Nat → Nat) (b1 : Nat → Nat) (ee1 : ES) (sz : Nat) (z : HS) (hJ : J_X3_saveIn hh p0 ee1 = some z) : Met l yX3_saveIn wsX3_saveIn ({ frames := 5, cells := 0, slots := 0, locals := 223 }) (va_Pc [.ref (ha 0), .int p0, .ref (a1 0)] (RWp dC dI sz ((HWc ha ux uy kE kI hh) ++ (EWc a1 b1 kI ee1)) [(kI, .int), (kE, .object "LzwCodec$Encoder")])) (rwQv dC dI (va_A ((HWc ha ux uy kE kI hh) ++ (EWc a1 b1 kI ee1)) sz) ((HWc ha ux uy kE kI z) ++ (EWc a1 b1 kI ee1))) 0 0 (va_A ((HWc ha ux uy kE kI hh) ++ (EWc a1 b1 kI ee1)) sz) := by
  refine rw_start (Qc := fun A => rwQv dC dI A ((HWc ha ux uy kE kI z) ++ (EWc a1 b1 kI ee1))) (cc := cX3_saveIn) (maxL := 3) (ret := none) (by decide) rfl (Nat.le_of_ble_eq_true rfl) ?_
  intro p e s m args below meth c hx hb hr hml hown hts hlocks hNW hK A hA H locs ls hP hD hS hl
  have hown : s.vm.findClass RX3 = some m.cls := hown
  have hl : lv_has ls 3 [(0, .ref (ha 0)), (1, .int p0), (2, .ref (a1 0))] := hl
  unfold J_X3_saveIn at hJ
  refine lv_aload_n hx hb dX3_saveIn_0 rfl (lv_at hl 0 rfl) ?_
  refine lv_iload_n hx hb dX3_saveIn_1 rfl (lv_at hl 1 rfl) ?_
  refine lv_aload_n hx hb dX3_saveIn_2 rfl (lv_at hl 2 rfl) ?_
  obtain ⟨z1, e2, hJ⟩ := bnd hJ
  refine rwVvW (As := [.int p0, .ref (a1 0)]) (rest := []) (ci := 3) (q0 := 0) hx hb hml hown hts (c_X3_copyTo l dC dI kI kE ha ux uy hh p0 a1 b1 ee1 H.size z1 e2) gX3_saveIn_X3_copyTo qX3_copyTo rfl ⟨Nat.le_of_ble_eq_true rfl, Nat.le_of_ble_eq_true rfl⟩ ⟨rfl, rfl⟩ hNW hK hP hD hS hA hK rfl rfl rfl hl.1 rfl rfl (Nat.le_of_ble_eq_true rfl) dX3_saveIn_3 z0 (fun H locs hP hD hS => ?_)
  refine lv_aload_n hx hb dX3_saveIn_6 rfl (lv_at hl 0 rfl) ?_
  refine lv_dup hx hb dX3_saveIn_7 rfl ?_
  refine va_get (D := (dC, dI)) (ci := 3) (v := .int (h_savedSlots z1)) (C := RX3) (T := TX3) (N := 4) hx hb hts (fun _ h => List.mem_cons_of_mem _ (List.mem_append_left _ (List.mem_append_left _ (List.mem_append_right _ h)))) hown hK hP 0 rfl rfl 1 (by decide) (hts _ (List.mem_of_getElem? (i := 1) rfl)) (fun _ h9 => h9) rfl dX3_saveIn_8 ?_
  refine lv_iconst (v := 1) hx hb dX3_saveIn_11 (by decide) ?_
  refine lv_iload_n hx hb dX3_saveIn_12 rfl (lv_at hl 1 rfl) ?_
  refine lv_ishl hx hb dX3_saveIn_13 ?_
  refine lv_ior hx hb dX3_saveIn_14 ?_
  refine va_put (D := (dC, dI)) (ci := 3) (v := .int ((h_savedSlots z1) ||| ((1 : Int32) <<< (p0 &&& 31)))) (ty := .int) (C := RX3) (T := TX3) (N := 4) hx hb hts (fun _ h => List.mem_cons_of_mem _ (List.mem_append_left _ (List.mem_append_left _ (List.mem_append_right _ h)))) tyX3 tyX3_ok nmX3 hown hK hP hD hS 0 rfl rfl 1 (by decide) (hts _ (List.mem_of_getElem? (i := 1) rfl)) (fun _ h9 => h9) rfl (by decide +kernel) rfl rfl (Nat.le_of_ble_eq_true rfl) dX3_saveIn_15 (fun H locs hP hD hS => ?_)
  have hP : va_P (dC, dI) vwCl ((HWc ha ux uy kE kI (mkH (h_states z1) ((h_savedSlots z1) ||| ((1 : Int32) <<< (p0 &&& 31))) (h_undoNext z1) (h_undoCount z1))) ++ (EWc a1 b1 kI ee1)) H := hP
  have hD : va_D A ((HWc ha ux uy kE kI (mkH (h_states z1) ((h_savedSlots z1) ||| ((1 : Int32) <<< (p0 &&& 31))) (h_undoNext z1) (h_undoCount z1))) ++ (EWc a1 b1 kI ee1)) := hD
  obtain rfl := Option.some.inj hJ
  exact rw_vret hx hb hr hlocks hP hD hS dX3_saveIn_18
theorem qX3_isSaved : (yX3_isSaved.cls = RX3) ∧ yX3_isSaved.cls ≠ "java/lang/invoke/MethodHandle" ∧ yX3_isSaved.cls ≠ "java/lang/invoke/VarHandle" ∧ (parseMethodDescriptor yX3_isSaved.desc).map (fun d => d.parameters.length) = some 1 := by decide +kernel
set_option maxHeartbeats 4000000 in
set_option maxRecDepth 100000 in
theorem c_X3_isSaved (l : Launch) (dC : Nat → ClassId) (dI : Nat → Nat → Nat) (kI kE : ClassId) (ha : Nat → Nat) (ux : Nat → Nat → Nat) (uy : Nat → Nat → Nat) (hh : HS) (p0 : Int32) (z : Int32) (hJ : J_X3_isSaved hh p0 = some z) : Met l yX3_isSaved wsX3_isSaved ({ frames := 0, cells := 0, slots := 0, locals := 0 }) (va_Pc [.ref (ha 0), .int p0] (ROp dC dI (HWc ha ux uy kE kI hh) [(kI, .int), (kE, .object "LzwCodec$Encoder")])) (roQi z) 0 0 (fun _ => False) := by
  refine ro_start (cc := cX3_isSaved) (maxL := 2) (ret := (some .boolean)) (by decide) rfl (Nat.le_of_ble_eq_true rfl) ?_
  intro p e s m args below meth c hx hb hr hml hown hts hlocks hNW hK H locs ls hP hS hl
  have hown : s.vm.findClass RX3 = some m.cls := hown
  have hl : lv_has ls 2 [(0, .ref (ha 0)), (1, .int p0)] := hl
  unfold J_X3_isSaved at hJ
  refine lv_aload_n hx hb dX3_isSaved_0 rfl (lv_at hl 0 rfl) ?_
  refine va_get (D := (dC, dI)) (ci := 3) (v := .int (h_savedSlots hh)) (C := RX3) (T := TX3) (N := 4) hx hb hts (fun _ h => List.mem_cons_of_mem _ (List.mem_append_right _ h)) hown hK hP 0 rfl rfl 1 (by decide) (hts _ (List.mem_of_getElem? (i := 1) rfl)) (fun _ h9 => h9) rfl dX3_isSaved_1 ?_
  refine lv_iload_n hx hb dX3_isSaved_4 rfl (lv_at hl 1 rfl) ?_
  refine lv_iushr (v := ((h_savedSlots hh).toUInt32 >>> (p0.toUInt32 &&& Int32.toUInt32 31)).toInt32) hx hb dX3_isSaved_5 rfl ?_
  refine lv_iconst (v := 1) hx hb dX3_isSaved_6 (by decide) ?_
  refine lv_iand hx hb dX3_isSaved_7 ?_
  refine lv_iconst (v := 1) hx hb dX3_isSaved_8 (by decide) ?_
  refine lv_icmp_ne (tgt := 16) hx hb dX3_isSaved_9 (by decide) (fun c1 => ?_) (fun c1 => ?_)
  · have hJ := ite_f c1 hJ
    refine lv_iconst (v := 0) hx hb dX3_isSaved_16 (by decide) ?_
    exact ro_zret hx hb hr hlocks rfl hS hJ dX3_isSaved_17
  · have hJ := ite_t c1 hJ
    refine lv_iconst (v := 1) hx hb dX3_isSaved_12 (by decide) ?_
    refine lv_goto (tgt := 17) hx hb dX3_isSaved_13 (by decide) ?_
    exact ro_zret hx hb hr hlocks rfl hS hJ dX3_isSaved_17
theorem qX3_fetchSaved : (yX3_fetchSaved.cls = RX3) ∧ yX3_fetchSaved.cls ≠ "java/lang/invoke/MethodHandle" ∧ yX3_fetchSaved.cls ≠ "java/lang/invoke/VarHandle" ∧ (parseMethodDescriptor yX3_fetchSaved.desc).map (fun d => d.parameters.length) = some 2 := by decide +kernel
set_option maxHeartbeats 4000000 in
set_option maxRecDepth 100000 in
theorem c_X3_fetchSaved (l : Launch) (dC : Nat → ClassId) (dI : Nat → Nat → Nat) (kI kE : ClassId) (ha : Nat → Nat) (ux : Nat → Nat → Nat) (uy : Nat → Nat → Nat) (hh : HS) (p0 : Int32) (a1 : Nat → Nat) (b1 : Nat → Nat) (ee1 : ES) (sz : Nat) (z : ES) (hJ : J_X3_fetchSaved hh p0 ee1 = some z) : Met l yX3_fetchSaved wsX3_fetchSaved ({ frames := 5, cells := 0, slots := 0, locals := 223 }) (va_Pc [.ref (ha 0), .int p0, .ref (a1 0)] (RWp dC dI sz ((HWc ha ux uy kE kI hh) ++ (EWc a1 b1 kI ee1)) [(kI, .int), (kE, .object "LzwCodec$Encoder")])) (rwQv dC dI (va_A ((HWc ha ux uy kE kI hh) ++ (EWc a1 b1 kI ee1)) sz) ((HWc ha ux uy kE kI hh) ++ (EWc a1 b1 kI z))) 0 0 (va_A ((HWc ha ux uy kE kI hh) ++ (EWc a1 b1 kI ee1)) sz) := by
  refine rw_start (Qc := fun A => rwQv dC dI A ((HWc ha ux uy kE kI hh) ++ (EWc a1 b1 kI z))) (cc := cX3_fetchSaved) (maxL := 3) (ret := none) (by decide) rfl (Nat.le_of_ble_eq_true rfl) ?_
  intro p e s m args below meth c hx hb hr hml hown hts hlocks hNW hK A hA H locs ls hP hD hS hl
  have hown : s.vm.findClass RX3 = some m.cls := hown
  have hl : lv_has ls 3 [(0, .ref (ha 0)), (1, .int p0), (2, .ref (a1 0))] := hl
  unfold J_X3_fetchSaved at hJ
  refine lv_aload_n hx hb dX3_fetchSaved_0 rfl (lv_at hl 0 rfl) ?_
  refine lv_iload_n hx hb dX3_fetchSaved_1 rfl (lv_at hl 1 rfl) ?_
  refine lv_aload_n hx hb dX3_fetchSaved_2 rfl (lv_at hl 2 rfl) ?_
  obtain ⟨z1, e2, hJ⟩ := bnd hJ
  refine rwVvW (As := [.int p0, .ref (a1 0)]) (rest := []) (ci := 3) (q0 := 0) hx hb hml hown hts (c_X3_copyBack l dC dI kI kE ha ux uy hh p0 a1 b1 ee1 H.size z1 e2) gX3_fetchSaved_X3_copyBack qX3_copyBack rfl ⟨Nat.le_of_ble_eq_true rfl, Nat.le_of_ble_eq_true rfl⟩ ⟨rfl, rfl⟩ hNW hK hP hD hS hA hK rfl rfl rfl hl.1 rfl rfl (Nat.le_of_ble_eq_true rfl) dX3_fetchSaved_3 z0 (fun H locs hP hD hS => ?_)
  obtain rfl := Option.some.inj hJ
  exact rw_vret hx hb hr hlocks hP hD hS dX3_fetchSaved_6
theorem qX3_stepBack : (yX3_stepBack.cls = RX3) ∧ yX3_stepBack.cls ≠ "java/lang/invoke/MethodHandle" ∧ yX3_stepBack.cls ≠ "java/lang/invoke/VarHandle" ∧ (parseMethodDescriptor yX3_stepBack.desc).map (fun d => d.parameters.length) = some 1 := by decide +kernel
set_option maxHeartbeats 4000000 in
set_option maxRecDepth 100000 in
theorem c_X3_stepBack (l : Launch) (dC : Nat → ClassId) (dI : Nat → Nat → Nat) (kI kE : ClassId) (ha : Nat → Nat) (ux : Nat → Nat → Nat) (uy : Nat → Nat → Nat) (hh : HS) (a0 : Nat → Nat) (b0 : Nat → Nat) (ee0 : ES) (sz : Nat) (z : HS × ES) (hJ : J_X3_stepBack hh ee0 = some z) : Met l yX3_stepBack wsX3_stepBack ({ frames := 5, cells := 0, slots := 0, locals := 223 }) (va_Pc [.ref (ha 0), .ref (a0 0)] (RWp dC dI sz ((HWc ha ux uy kE kI hh) ++ (EWc a0 b0 kI ee0)) [(kI, .int), (kE, .object "LzwCodec$Encoder")])) (rwQv dC dI (va_A ((HWc ha ux uy kE kI hh) ++ (EWc a0 b0 kI ee0)) sz) ((HWc ha ux uy kE kI z.1) ++ (EWc a0 b0 kI z.2))) 0 0 (va_A ((HWc ha ux uy kE kI hh) ++ (EWc a0 b0 kI ee0)) sz) := by
  refine rw_start (Qc := fun A => rwQv dC dI A ((HWc ha ux uy kE kI z.1) ++ (EWc a0 b0 kI z.2))) (cc := cX3_stepBack) (maxL := 2) (ret := none) (by decide) rfl (Nat.le_of_ble_eq_true rfl) ?_
  intro p e s m args below meth c hx hb hr hml hown hts hlocks hNW hK A hA H locs ls hP hD hS hl
  have hown : s.vm.findClass RX3 = some m.cls := hown
  have hl : lv_has ls 2 [(0, .ref (ha 0)), (1, .ref (a0 0))] := hl
  unfold J_X3_stepBack at hJ
  have L19 : ∀ (hh : HS) (ee0 : ES) (k1 : Int32) (H : Heap) (locs : List Loc) (ls : Array Slot), va_P (dC, dI) vwCl ((HWc ha ux uy kE kI hh) ++ (EWc a0 b0 kI ee0)) H → va_D A ((HWc ha ux uy kE kI hh) ++ (EWc a0 b0 kI ee0)) → va_S A s.heap H locs → lv_has ls 2 [(0, .ref (ha 0)), (1, .ref (a0 0))] → J_X3_stepBack_b19 hh ee0 k1 = some z → W p l e ({ frames := 5, cells := 0, slots := 0, locals := 223 }) s m args below meth c H locs 0 0 (MQ below (rwQv dC dI A ((HWc ha ux uy kE kI z.1) ++ (EWc a0 b0 kI z.2))) args s 0 0 (A)) (F0 m 19 ls [.int k1, .ref (ha 0)]) := by
    intro hh ee0 k1 H locs ls hP hD hS hl hJ
    unfold J_X3_stepBack_b19 at hJ
    refine va_put (D := (dC, dI)) (ci := 3) (v := .int k1) (ty := .int) (C := RX3) (T := TX3) (N := 4) hx hb hts (fun _ h => List.mem_cons_of_mem _ (List.mem_append_left _ (List.mem_append_left _ (List.mem_append_right _ h)))) tyX3 tyX3_ok nmX3 hown hK hP hD hS 0 rfl rfl 2 (by decide) (hts _ (List.mem_of_getElem? (i := 1) rfl)) (fun _ h9 => h9) rfl (by decide +kernel) rfl rfl (Nat.le_of_ble_eq_true rfl) dX3_stepBack_19 (fun H locs hP hD hS => ?_)
    have hP : va_P (dC, dI) vwCl ((HWc ha ux uy kE kI (mkH (h_states hh) (h_savedSlots hh) k1 (h_undoCount hh))) ++ (EWc a0 b0 kI ee0)) H := hP
    have hD : va_D A ((HWc ha ux uy kE kI (mkH (h_states hh) (h_savedSlots hh) k1 (h_undoCount hh))) ++ (EWc a0 b0 kI ee0)) := hD
    refine lv_aload_n hx hb dX3_stepBack_22 rfl (lv_at hl 0 rfl) ?_
    refine lv_dup hx hb dX3_stepBack_23 rfl ?_
    refine va_get (D := (dC, dI)) (ci := 3) (v := .int (h_undoCount hh)) (C := RX3) (T := TX3) (N := 4) hx hb hts (fun _ h => List.mem_cons_of_mem _ (List.mem_append_left _ (List.mem_append_left _ (List.mem_append_right _ h)))) hown hK hP 0 rfl rfl 3 (by decide) (hts _ (List.mem_of_getElem? (i := 2) rfl)) (fun _ h9 => h9) rfl dX3_stepBack_24 ?_
    refine lv_iconst (v := 1) hx hb dX3_stepBack_27 (by decide) ?_
    refine lv_isub hx hb dX3_stepBack_28 ?_
    refine va_put (D := (dC, dI)) (ci := 3) (v := .int ((h_undoCount hh) - (1 : Int32))) (ty := .int) (C := RX3) (T := TX3) (N := 4) hx hb hts (fun _ h => List.mem_cons_of_mem _ (List.mem_append_left _ (List.mem_append_left _ (List.mem_append_right _ h)))) tyX3 tyX3_ok nmX3 hown hK hP hD hS 0 rfl rfl 3 (by decide) (hts _ (List.mem_of_getElem? (i := 2) rfl)) (fun _ h9 => h9) rfl (by decide +kernel) rfl rfl (Nat.le_of_ble_eq_true rfl) dX3_stepBack_29 (fun H locs hP hD hS => ?_)
    have hP : va_P (dC, dI) vwCl ((HWc ha ux uy kE kI (mkH (h_states hh) (h_savedSlots hh) k1 ((h_undoCount hh) - (1 : Int32)))) ++ (EWc a0 b0 kI ee0)) H := hP
    have hD : va_D A ((HWc ha ux uy kE kI (mkH (h_states hh) (h_savedSlots hh) k1 ((h_undoCount hh) - (1 : Int32)))) ++ (EWc a0 b0 kI ee0)) := hD
    refine lv_aload_n hx hb dX3_stepBack_32 rfl (lv_at hl 0 rfl) ?_
    refine lv_iconst (v := 2) hx hb dX3_stepBack_33 (by decide) ?_
    refine lv_aload_n hx hb dX3_stepBack_34 rfl (lv_at hl 0 rfl) ?_
    refine va_get (D := (dC, dI)) (ci := 3) (v := .int k1) (C := RX3) (T := TX3) (N := 4) hx hb hts (fun _ h => List.mem_cons_of_mem _ (List.mem_append_left _ (List.mem_append_left _ (List.mem_append_right _ h)))) hown hK hP 0 rfl rfl 2 (by decide) (hts _ (List.mem_of_getElem? (i := 1) rfl)) (fun _ h9 => h9) rfl dX3_stepBack_35 ?_
    refine lv_iadd hx hb dX3_stepBack_38 ?_
    refine lv_aload_n hx hb dX3_stepBack_39 rfl (lv_at hl 1 rfl) ?_
    obtain ⟨z2, e3, hJ⟩ := bnd hJ
    refine rwVvW (As := [.int ((2 : Int32) + k1), .ref (a0 0)]) (rest := []) (ci := 3) (q0 := 0) hx hb hml hown hts (c_X3_copyBack l dC dI kI kE ha ux uy (mkH (h_states hh) (h_savedSlots hh) k1 ((h_undoCount hh) - (1 : Int32))) ((2 : Int32) + k1) a0 b0 ee0 H.size z2 e3) gX3_stepBack_X3_copyBack qX3_copyBack rfl ⟨Nat.le_of_ble_eq_true rfl, Nat.le_of_ble_eq_true rfl⟩ ⟨rfl, rfl⟩ hNW hK hP hD hS hA hK rfl rfl rfl hl.1 rfl rfl (Nat.le_of_ble_eq_true rfl) dX3_stepBack_40 z0 (fun H locs hP hD hS => ?_)
    obtain rfl := Option.some.inj hJ
    exact rw_vret hx hb hr hlocks hP hD hS dX3_stepBack_43
  refine lv_aload_n hx hb dX3_stepBack_0 rfl (lv_at hl 0 rfl) ?_
  refine lv_aload_n hx hb dX3_stepBack_1 rfl (lv_at hl 0 rfl) ?_
  refine va_get (D := (dC, dI)) (ci := 3) (v := .int (h_undoNext hh)) (C := RX3) (T := TX3) (N := 4) hx hb hts (fun _ h => List.mem_cons_of_mem _ (List.mem_append_left _ (List.mem_append_left _ (List.mem_append_right _ h)))) hown hK hP 0 rfl rfl 2 (by decide) (hts _ (List.mem_of_getElem? (i := 1) rfl)) (fun _ h9 => h9) rfl dX3_stepBack_2 ?_
  refine lv_if_le (tgt := 17) hx hb dX3_stepBack_5 (by decide) (fun c1 => ?_) (fun c1 => ?_)
  · have hJ := ite_t c1 hJ
    refine lv_bipush (v := 7) hx hb dX3_stepBack_17 (by decide) ?_
    exact L19 hh ee0 (7 : Int32) H locs ls hP hD hS (lv_sub hl [0, 1] rfl) hJ
  · have hJ := ite_f c1 hJ
    refine lv_aload_n hx hb dX3_stepBack_8 rfl (lv_at hl 0 rfl) ?_
    refine va_get (D := (dC, dI)) (ci := 3) (v := .int (h_undoNext hh)) (C := RX3) (T := TX3) (N := 4) hx hb hts (fun _ h => List.mem_cons_of_mem _ (List.mem_append_left _ (List.mem_append_left _ (List.mem_append_right _ h)))) hown hK hP 0 rfl rfl 2 (by decide) (hts _ (List.mem_of_getElem? (i := 1) rfl)) (fun _ h9 => h9) rfl dX3_stepBack_9 ?_
    refine lv_iconst (v := 1) hx hb dX3_stepBack_12 (by decide) ?_
    refine lv_isub hx hb dX3_stepBack_13 ?_
    refine lv_goto (tgt := 19) hx hb dX3_stepBack_14 (by decide) ?_
    exact L19 hh ee0 ((h_undoNext hh) - (1 : Int32)) H locs ls hP hD hS (lv_sub hl [0, 1] rfl) hJ
theorem qX5_addText : (yX5_addText.cls = RX5) ∧ yX5_addText.cls ≠ "java/lang/invoke/MethodHandle" ∧ yX5_addText.cls ≠ "java/lang/invoke/VarHandle" ∧ (parseMethodDescriptor yX5_addText.desc).map (fun d => d.parameters.length) = some 1 := by decide +kernel
set_option maxHeartbeats 4000000 in
set_option maxRecDepth 100000 in
theorem c_X5_addText (fu : Nat) (l : Launch) (dC : Nat → ClassId) (dI : Nat → Nat → Nat) (K : KT) (kI : ClassId) (a : Nat → Nat) (w : SS) (s0 : Nat) (hs0 : s0 < 9) (sz : Nat) (z : SS) (hJ : J_X5_addText fu w s0 = some z) : Met l yX5_addText wsX5_addText ({ frames := 4, cells := 0, slots := 0, locals := 85 }) (va_Pc [.ref (a 0), .ref (K.1 s0)] (RWc' K dC dI sz (SWc a kI w) [(kI, .int)])) (rwQv dC dI (va_A (SWc a kI w) sz) (SWc a kI z)) 0 0 (va_A (SWc a kI w) sz) := by
  refine rwc_start (Qc := fun A => rwQv dC dI A (SWc a kI z)) (cc := cX5_addText) (maxL := 3) (ret := none) (by decide) rfl (Nat.le_of_ble_eq_true rfl) ?_
  intro p e s m args below meth c hx hb hr hml hown hts hlocks hNW hK A hA hCE H locs ls hP hD hS hl
  have hown : s.vm.findClass RX5 = some m.cls := hown
  have hl : lv_has ls 3 [(0, .ref (a 0)), (1, .ref (K.1 s0))] := hl
  unfold J_X5_addText at hJ
  have L2 : ∀ (n : Nat) (w : SS) (y2 : Int32) (H : Heap) (locs : List Loc) (ls : Array Slot), va_P (dC, dI) vwCl (SWc a kI w) H → va_D A (SWc a kI w) → va_S A s.heap H locs → lv_has ls 3 [(0, .ref (a 0)), (1, .ref (K.1 s0)), (2, .int y2)] → J_X5_addText_b2 fu s0 n w y2 = some z → W p l e ({ frames := 4, cells := 0, slots := 0, locals := 85 }) s m args below meth c H locs 0 0 (MQ below (rwQv dC dI A (SWc a kI z)) args s 0 0 (A)) (F0 m 2 ls []) := by
    intro n
    induction n with
    | zero =>
      intro w y2 H locs ls hP hD hS hl hJ
      rw [J_X5_addText_b2] at hJ; cases hJ
    | succ n ih =>
      intro w y2 H locs ls hP hD hS hl hJ
      rw [J_X5_addText_b2] at hJ
      refine lv_iload_n hx hb dX5_addText_2 rfl (lv_at hl 2 rfl) ?_
      refine lv_aload_n hx hb dX5_addText_3 rfl (lv_at hl 1 rfl) ?_
      refine roTic (As := []) (rest := [.int y2]) (i := s0) hx hb hml hown hts hs0 (c_J0_length l K dC dI s0 hs0) gX5_addText_J0_length_8abf5 qJ0_length_8abf5 rfl ⟨Nat.le_of_ble_eq_true rfl, Nat.le_of_ble_eq_true rfl⟩ ⟨rfl, rfl⟩ hNW hCE hK hP hS hl.1 rfl rfl (Nat.le_of_ble_eq_true rfl) dX5_addText_4 z0 (fun H locs hP hS => ?_)
      refine lv_icmp_ge (tgt := 25) hx hb dX5_addText_7 (by decide) (fun c1 => ?_) (fun c1 => ?_)
      · have hJ := ite_t c1 hJ
        obtain rfl := Option.some.inj hJ
        exact rw_vret hx hb hr hlocks hP hD hS dX5_addText_25
      · have hJ := ite_f c1 hJ
        refine lv_aload_n hx hb dX5_addText_10 rfl (lv_at hl 0 rfl) ?_
        refine lv_aload_n hx hb dX5_addText_11 rfl (lv_at hl 1 rfl) ?_
        refine lv_iload_n hx hb dX5_addText_12 rfl (lv_at hl 2 rfl) ?_
        obtain ⟨z2, e3, hJ⟩ := bnd hJ
        refine roTic (As := [.int y2]) (rest := [.ref (a 0)]) (i := s0) hx hb hml hown hts hs0 (c_J0_charAt l K dC dI s0 hs0 y2 z2 e3) gX5_addText_J0_charAt_5068e qJ0_charAt_5068e rfl ⟨Nat.le_of_ble_eq_true rfl, Nat.le_of_ble_eq_true rfl⟩ ⟨rfl, rfl⟩ hNW hCE hK hP hS hl.1 rfl rfl (Nat.le_of_ble_eq_true rfl) dX5_addText_13 z0 (fun H locs hP hS => ?_)
        obtain ⟨z4, e5, hJ⟩ := bnd hJ
        refine rwVvW (As := [.int z2]) (rest := []) (ci := 5) (q0 := 0) hx hb hml hown hts (c_X5_addSign l dC dI kI a w z2 H.size z4 e5) gX5_addText_X5_addSign qX5_addSign rfl ⟨Nat.le_of_ble_eq_true rfl, Nat.le_of_ble_eq_true rfl⟩ ⟨rfl, rfl⟩ hNW hK hP hD hS hA hK rfl rfl rfl hl.1 rfl rfl (Nat.le_of_ble_eq_true rfl) dX5_addText_16 z0 (fun H locs hP hD hS => ?_)
        refine lv_iinc (v := y2 + 1) (lv' := [(2, .int (y2 + 1)), (0, .ref (a 0)), (1, .ref (K.1 s0))]) hx hb dX5_addText_19 hl (k := 2) rfl rfl (by decide) rfl (fun ls hl => ?_)
        refine lv_goto (tgt := 2) hx hb dX5_addText_22 (by decide) ?_
        exact ih z4 (y2 + 1) H locs ls hP hD hS (lv_sub hl [1, 2, 0] rfl) hJ
  refine lv_iconst (v := 0) hx hb dX5_addText_0 (by decide) ?_
  refine lv_istore_n (lv' := [(2, .int (0 : Int32)), (0, .ref (a 0)), (1, .ref (K.1 s0))]) hx hb dX5_addText_1 rfl hl (by decide) rfl (fun ls hl => ?_)
  exact L2 fu w (0 : Int32) H locs ls hP hD hS (lv_sub hl [1, 2, 0] rfl) hJ
theorem qX5_describe : (yX5_describe.cls = RX5) ∧ yX5_describe.cls ≠ "java/lang/invoke/MethodHandle" ∧ yX5_describe.cls ≠ "java/lang/invoke/VarHandle" ∧ (parseMethodDescriptor yX5_describe.desc).map (fun d => d.parameters.length) = some 1 := by decide +kernel
set_option maxHeartbeats 4000000 in
set_option maxRecDepth 100000 in
theorem c_X5_describe (fu : Nat) (l : Launch) (dC : Nat → ClassId) (dI : Nat → Nat → Nat) (K : KT) (kI : ClassId) (a : Nat → Nat) (w : SS) (a0 : Nat → Nat) (b0 : Nat → Nat) (ee0 : ES) (sz : Nat) (z : SS) (hJ : J_X5_describe fu w ee0 = some z) : Met l yX5_describe wsX5_describe ({ frames := 5, cells := 0, slots := 0, locals := 107 }) (va_Pc [.ref (a 0), .ref (a0 0)] (RWc' K dC dI sz ((SWc a kI w) ++ (EWc a0 b0 kI ee0)) [(kI, .int)])) (rwQv dC dI (va_A ((SWc a kI w) ++ (EWc a0 b0 kI ee0)) sz) ((SWc a kI z) ++ (EWc a0 b0 kI ee0))) 0 0 (va_A ((SWc a kI w) ++ (EWc a0 b0 kI ee0)) sz) := by
  refine rwc_start (Qc := fun A => rwQv dC dI A ((SWc a kI z) ++ (EWc a0 b0 kI ee0))) (cc := cX5_describe) (maxL := 2) (ret := none) (by decide) rfl (Nat.le_of_ble_eq_true rfl) ?_
  intro p e s m args below meth c hx hb hr hml hown hts hlocks hNW hK A hA hCE H locs ls hP hD hS hl
  have hown : s.vm.findClass RX5 = some m.cls := hown
  have hl : lv_has ls 2 [(0, .ref (a 0)), (1, .ref (a0 0))] := hl
  unfold J_X5_describe at hJ
  refine lv_aload_n hx hb dX5_describe_0 rfl (lv_at hl 0 rfl) ?_
  refine lv_iconst (v := 0) hx hb dX5_describe_1 (by decide) ?_
  refine va_put (D := (dC, dI)) (ci := 5) (v := .int (0 : Int32)) (ty := .int) (C := RX5) (T := TX5) (N := 2) hx hb hts (fun _ h => List.mem_cons_of_mem _ (List.mem_append_left _ (List.mem_append_left _ (List.mem_append_right _ h)))) tyX5 tyX5_ok nmX5 hown hK hP hD hS 0 rfl rfl 1 (by decide) (hts _ (List.mem_of_getElem? (i := 1) rfl)) (fun _ h9 => h9) rfl (by decide +kernel) rfl rfl (Nat.le_of_ble_eq_true rfl) dX5_describe_2 (fun H locs hP hD hS => ?_)
  have hP : va_P (dC, dI) vwCl ((SWc a kI (mkS (s_text w) (0 : Int32))) ++ (EWc a0 b0 kI ee0)) H := hP
  have hD : va_D A ((SWc a kI (mkS (s_text w) (0 : Int32))) ++ (EWc a0 b0 kI ee0)) := hD
  refine lv_aload_n hx hb dX5_describe_5 rfl (lv_at hl 0 rfl) ?_
  refine va_ldcS hx hb hown (hCE.2.1 (RX5, 19, "lzw ", 5) (List.mem_of_getElem? (i := 5) rfl)) dX5_describe_6 ?_
  obtain ⟨z1, e2, hJ⟩ := bnd hJ
  refine rwVvc (As := [.ref (K.1 5)]) (rest := []) (wc := SWc a kI (mkS (s_text w) (0 : Int32))) (wc' := SWc a kI z1) (ws' := (SWc a kI z1) ++ (EWc a0 b0 kI ee0)) (ci := 5) (q0 := 0) hx hb hml hown hts (c_X5_addText fu l dC dI K kI a (mkS (s_text w) (0 : Int32)) 5 (by decide) H.size z1 e2) gX5_describe_X5_addText qX5_addText rfl ⟨Nat.le_of_ble_eq_true rfl, Nat.le_of_ble_eq_true rfl⟩ ⟨rfl, rfl⟩ hNW hCE hK hP hD hS hA [0, 1] [2, 3, 4, 5, 6, 7, 8, 9, 10, 11] rfl rfl (by decide) (by decide) (by decide) [10, 11, 0, 1, 2, 3, 4, 5, 6, 7, 8, 9] rfl (by decide) hK rfl rfl rfl hl.1 rfl rfl (Nat.le_of_ble_eq_true rfl) dX5_describe_8 z0 (fun H locs hP hD hS => ?_)
  refine lv_aload_n hx hb dX5_describe_11 rfl (lv_at hl 0 rfl) ?_
  refine lv_aload_n hx hb dX5_describe_12 rfl (lv_at hl 1 rfl) ?_
  refine va_getN (D := (dC, dI)) (ci := 2) (v := .ref (b0 0)) (C := RX2) (T := TX2) (N := 14) hx hb hts (fun _ h => List.mem_cons_of_mem _ (List.mem_append_left _ (List.mem_append_right _ h))) hown hK hP 2 rfl rfl 0 (by decide) (hNW.use (i := 10) rfl) (fun _ h9 => h9) rfl dX5_describe_13 ?_
  refine va_getN (D := (dC, dI)) (ci := 1) (v := .int (d_alphabet (e_d ee0))) (C := RX1) (T := TX1) (N := 8) hx hb hts (fun _ h => List.mem_cons_of_mem _ (List.mem_append_right _ h)) hown hK hP 6 rfl rfl 5 (by decide) (hNW.use (i := 2) rfl) (fun _ h9 => h9) rfl dX5_describe_16 ?_
  obtain ⟨z3, e4, hJ⟩ := bnd hJ
  refine rwVv (As := [.int (d_alphabet (e_d ee0))]) (rest := []) (wc := SWc a kI z1) (wc' := SWc a kI z3) (ws' := (SWc a kI z3) ++ (EWc a0 b0 kI ee0)) (ci := 5) (q0 := 0) hx hb hml hown hts (c_X5_addNumber l dC dI kI a z1 (d_alphabet (e_d ee0)) H.size z3 e4) gX5_describe_X5_addNumber qX5_addNumber rfl ⟨Nat.le_of_ble_eq_true rfl, Nat.le_of_ble_eq_true rfl⟩ ⟨rfl, rfl⟩ hNW hK hP hD hS hA [0, 1] [2, 3, 4, 5, 6, 7, 8, 9, 10, 11] rfl rfl (by decide) (by decide) (by decide) [10, 11, 0, 1, 2, 3, 4, 5, 6, 7, 8, 9] rfl (by decide) hK rfl rfl rfl hl.1 rfl rfl (Nat.le_of_ble_eq_true rfl) dX5_describe_19 z0 (fun H locs hP hD hS => ?_)
  refine lv_aload_n hx hb dX5_describe_22 rfl (lv_at hl 0 rfl) ?_
  refine va_ldcS hx hb hown (hCE.2.1 (RX5, 40, " ", 6) (List.mem_of_getElem? (i := 6) rfl)) dX5_describe_23 ?_
  obtain ⟨z5, e6, hJ⟩ := bnd hJ
  refine rwVvc (As := [.ref (K.1 6)]) (rest := []) (wc := SWc a kI z3) (wc' := SWc a kI z5) (ws' := (SWc a kI z5) ++ (EWc a0 b0 kI ee0)) (ci := 5) (q0 := 0) hx hb hml hown hts (c_X5_addText fu l dC dI K kI a z3 6 (by decide) H.size z5 e6) gX5_describe_X5_addText qX5_addText rfl ⟨Nat.le_of_ble_eq_true rfl, Nat.le_of_ble_eq_true rfl⟩ ⟨rfl, rfl⟩ hNW hCE hK hP hD hS hA [0, 1] [2, 3, 4, 5, 6, 7, 8, 9, 10, 11] rfl rfl (by decide) (by decide) (by decide) [10, 11, 0, 1, 2, 3, 4, 5, 6, 7, 8, 9] rfl (by decide) hK rfl rfl rfl hl.1 rfl rfl (Nat.le_of_ble_eq_true rfl) dX5_describe_25 z0 (fun H locs hP hD hS => ?_)
  refine lv_aload_n hx hb dX5_describe_28 rfl (lv_at hl 0 rfl) ?_
  refine lv_aload_n hx hb dX5_describe_29 rfl (lv_at hl 1 rfl) ?_
  refine va_getN (D := (dC, dI)) (ci := 2) (v := .ref (b0 0)) (C := RX2) (T := TX2) (N := 14) hx hb hts (fun _ h => List.mem_cons_of_mem _ (List.mem_append_left _ (List.mem_append_right _ h))) hown hK hP 2 rfl rfl 0 (by decide) (hNW.use (i := 10) rfl) (fun _ h9 => h9) rfl dX5_describe_30 ?_
  refine va_getN (D := (dC, dI)) (ci := 1) (v := .int (d_widest (e_d ee0))) (C := RX1) (T := TX1) (N := 8) hx hb hts (fun _ h => List.mem_cons_of_mem _ (List.mem_append_right _ h)) hown hK hP 6 rfl rfl 6 (by decide) (hNW.use (i := 6) rfl) (fun _ h9 => h9) rfl dX5_describe_33 ?_
  obtain ⟨z7, e8, hJ⟩ := bnd hJ
  refine rwVv (As := [.int (d_widest (e_d ee0))]) (rest := []) (wc := SWc a kI z5) (wc' := SWc a kI z7) (ws' := (SWc a kI z7) ++ (EWc a0 b0 kI ee0)) (ci := 5) (q0 := 0) hx hb hml hown hts (c_X5_addNumber l dC dI kI a z5 (d_widest (e_d ee0)) H.size z7 e8) gX5_describe_X5_addNumber qX5_addNumber rfl ⟨Nat.le_of_ble_eq_true rfl, Nat.le_of_ble_eq_true rfl⟩ ⟨rfl, rfl⟩ hNW hK hP hD hS hA [0, 1] [2, 3, 4, 5, 6, 7, 8, 9, 10, 11] rfl rfl (by decide) (by decide) (by decide) [10, 11, 0, 1, 2, 3, 4, 5, 6, 7, 8, 9] rfl (by decide) hK rfl rfl rfl hl.1 rfl rfl (Nat.le_of_ble_eq_true rfl) dX5_describe_36 z0 (fun H locs hP hD hS => ?_)
  refine lv_aload_n hx hb dX5_describe_39 rfl (lv_at hl 0 rfl) ?_
  refine va_ldcS hx hb hown (hCE.2.1 (RX5, 40, " ", 6) (List.mem_of_getElem? (i := 6) rfl)) dX5_describe_40 ?_
  obtain ⟨z9, e10, hJ⟩ := bnd hJ
  refine rwVvc (As := [.ref (K.1 6)]) (rest := []) (wc := SWc a kI z7) (wc' := SWc a kI z9) (ws' := (SWc a kI z9) ++ (EWc a0 b0 kI ee0)) (ci := 5) (q0 := 0) hx hb hml hown hts (c_X5_addText fu l dC dI K kI a z7 6 (by decide) H.size z9 e10) gX5_describe_X5_addText qX5_addText rfl ⟨Nat.le_of_ble_eq_true rfl, Nat.le_of_ble_eq_true rfl⟩ ⟨rfl, rfl⟩ hNW hCE hK hP hD hS hA [0, 1] [2, 3, 4, 5, 6, 7, 8, 9, 10, 11] rfl rfl (by decide) (by decide) (by decide) [10, 11, 0, 1, 2, 3, 4, 5, 6, 7, 8, 9] rfl (by decide) hK rfl rfl rfl hl.1 rfl rfl (Nat.le_of_ble_eq_true rfl) dX5_describe_42 z0 (fun H locs hP hD hS => ?_)
  refine lv_aload_n hx hb dX5_describe_45 rfl (lv_at hl 0 rfl) ?_
  refine lv_aload_n hx hb dX5_describe_46 rfl (lv_at hl 1 rfl) ?_
  refine va_getN (D := (dC, dI)) (ci := 2) (v := .int (e_policy ee0)) (C := RX2) (T := TX2) (N := 14) hx hb hts (fun _ h => List.mem_cons_of_mem _ (List.mem_append_left _ (List.mem_append_right _ h))) hown hK hP 2 rfl rfl 1 (by decide) (hNW.use (i := 12) rfl) (fun _ h9 => h9) rfl dX5_describe_47 ?_
  obtain ⟨z11, e12, hJ⟩ := bnd hJ
  refine roSNsc (As := [.int (e_policy ee0)]) (rest := [.ref (a 0)]) hx hb hml hown hts (c_X7_nameOfPolicy l K dC dI (e_policy ee0) z11 e12) gX5_describe_X7_nameOfPolicy_n48 qX7_nameOfPolicy rfl ⟨Nat.le_of_ble_eq_true rfl, Nat.le_of_ble_eq_true rfl⟩ (hNW.use0 (i := 62) rfl) (hts _ (List.mem_of_getElem? (i := 62) rfl)) (hts _ (List.mem_of_getElem? (i := 68) rfl)) ⟨rfl, rfl⟩ hNW hCE hK hP hS (hP.sub (ws' := []) [] rfl) (hK.sub (tys' := []) [] rfl) hl.1 rfl rfl (Nat.le_of_ble_eq_true rfl) dX5_describe_50 z0 (fun H locs hP hS => ?_)
  obtain ⟨z13, e14, hJ⟩ := bnd hJ
  refine rwVvc (As := [.ref (K.1 z11)]) (rest := []) (wc := SWc a kI z9) (wc' := SWc a kI z13) (ws' := (SWc a kI z13) ++ (EWc a0 b0 kI ee0)) (ci := 5) (q0 := 0) hx hb hml hown hts (c_X5_addText fu l dC dI K kI a z9 z11 (nop_lt e12) H.size z13 e14) gX5_describe_X5_addText qX5_addText rfl ⟨Nat.le_of_ble_eq_true rfl, Nat.le_of_ble_eq_true rfl⟩ ⟨rfl, rfl⟩ hNW hCE hK hP hD hS hA [0, 1] [2, 3, 4, 5, 6, 7, 8, 9, 10, 11] rfl rfl (by decide) (by decide) (by decide) [10, 11, 0, 1, 2, 3, 4, 5, 6, 7, 8, 9] rfl (by decide) hK rfl rfl rfl hl.1 rfl rfl (Nat.le_of_ble_eq_true rfl) dX5_describe_53 z0 (fun H locs hP hD hS => ?_)
  refine lv_aload_n hx hb dX5_describe_56 rfl (lv_at hl 0 rfl) ?_
  refine va_ldcS hx hb hown (hCE.2.1 (RX5, 40, " ", 6) (List.mem_of_getElem? (i := 6) rfl)) dX5_describe_57 ?_
  obtain ⟨z15, e16, hJ⟩ := bnd hJ
  refine rwVvc (As := [.ref (K.1 6)]) (rest := []) (wc := SWc a kI z13) (wc' := SWc a kI z15) (ws' := (SWc a kI z15) ++ (EWc a0 b0 kI ee0)) (ci := 5) (q0 := 0) hx hb hml hown hts (c_X5_addText fu l dC dI K kI a z13 6 (by decide) H.size z15 e16) gX5_describe_X5_addText qX5_addText rfl ⟨Nat.le_of_ble_eq_true rfl, Nat.le_of_ble_eq_true rfl⟩ ⟨rfl, rfl⟩ hNW hCE hK hP hD hS hA [0, 1] [2, 3, 4, 5, 6, 7, 8, 9, 10, 11] rfl rfl (by decide) (by decide) (by decide) [10, 11, 0, 1, 2, 3, 4, 5, 6, 7, 8, 9] rfl (by decide) hK rfl rfl rfl hl.1 rfl rfl (Nat.le_of_ble_eq_true rfl) dX5_describe_59 z0 (fun H locs hP hD hS => ?_)
  refine lv_aload_n hx hb dX5_describe_62 rfl (lv_at hl 0 rfl) ?_
  refine lv_aload_n hx hb dX5_describe_63 rfl (lv_at hl 1 rfl) ?_
  refine va_getN (D := (dC, dI)) (ci := 2) (v := .int (e_limit ee0)) (C := RX2) (T := TX2) (N := 14) hx hb hts (fun _ h => List.mem_cons_of_mem _ (List.mem_append_left _ (List.mem_append_right _ h))) hown hK hP 2 rfl rfl 2 (by decide) (hNW.use (i := 14) rfl) (fun _ h9 => h9) rfl dX5_describe_64 ?_
  obtain ⟨z17, e18, hJ⟩ := bnd hJ
  refine rwVv (As := [.int (e_limit ee0)]) (rest := []) (wc := SWc a kI z15) (wc' := SWc a kI z17) (ws' := (SWc a kI z17) ++ (EWc a0 b0 kI ee0)) (ci := 5) (q0 := 0) hx hb hml hown hts (c_X5_addNumber l dC dI kI a z15 (e_limit ee0) H.size z17 e18) gX5_describe_X5_addNumber qX5_addNumber rfl ⟨Nat.le_of_ble_eq_true rfl, Nat.le_of_ble_eq_true rfl⟩ ⟨rfl, rfl⟩ hNW hK hP hD hS hA [0, 1] [2, 3, 4, 5, 6, 7, 8, 9, 10, 11] rfl rfl (by decide) (by decide) (by decide) [10, 11, 0, 1, 2, 3, 4, 5, 6, 7, 8, 9] rfl (by decide) hK rfl rfl rfl hl.1 rfl rfl (Nat.le_of_ble_eq_true rfl) dX5_describe_67 z0 (fun H locs hP hD hS => ?_)
  refine lv_aload_n hx hb dX5_describe_70 rfl (lv_at hl 0 rfl) ?_
  refine va_ldcS hx hb hown (hCE.2.1 (RX5, 55, ";", 7) (List.mem_of_getElem? (i := 7) rfl)) dX5_describe_71 ?_
  obtain ⟨z19, e20, hJ⟩ := bnd hJ
  refine rwVvc (As := [.ref (K.1 7)]) (rest := []) (wc := SWc a kI z17) (wc' := SWc a kI z19) (ws' := (SWc a kI z19) ++ (EWc a0 b0 kI ee0)) (ci := 5) (q0 := 0) hx hb hml hown hts (c_X5_addText fu l dC dI K kI a z17 7 (by decide) H.size z19 e20) gX5_describe_X5_addText qX5_addText rfl ⟨Nat.le_of_ble_eq_true rfl, Nat.le_of_ble_eq_true rfl⟩ ⟨rfl, rfl⟩ hNW hCE hK hP hD hS hA [0, 1] [2, 3, 4, 5, 6, 7, 8, 9, 10, 11] rfl rfl (by decide) (by decide) (by decide) [10, 11, 0, 1, 2, 3, 4, 5, 6, 7, 8, 9] rfl (by decide) hK rfl rfl rfl hl.1 rfl rfl (Nat.le_of_ble_eq_true rfl) dX5_describe_73 z0 (fun H locs hP hD hS => ?_)
  refine lv_aload_n hx hb dX5_describe_76 rfl (lv_at hl 1 rfl) ?_
  refine va_getN (D := (dC, dI)) (ci := 2) (v := .int (e_encodedLength ee0)) (C := RX2) (T := TX2) (N := 14) hx hb hts (fun _ h => List.mem_cons_of_mem _ (List.mem_append_left _ (List.mem_append_right _ h))) hown hK hP 2 rfl rfl 5 (by decide) (hNW.use (i := 19) rfl) (fun _ h9 => h9) rfl dX5_describe_77 ?_
  refine lv_if_le (tgt := 100) hx hb dX5_describe_80 (by decide) (fun c21 => ?_) (fun c21 => ?_)
  · have hJ := ite_t c21 hJ
    obtain rfl := Option.some.inj hJ
    exact rw_vret hx hb hr hlocks hP hD hS dX5_describe_100
  · have hJ := ite_f c21 hJ
    refine lv_aload_n hx hb dX5_describe_83 rfl (lv_at hl 0 rfl) ?_
    refine va_ldcS hx hb hown (hCE.2.1 (RX5, 60, "symbols ", 8) (List.mem_of_getElem? (i := 8) rfl)) dX5_describe_84 ?_
    obtain ⟨z22, e23, hJ⟩ := bnd hJ
    refine rwVvc (As := [.ref (K.1 8)]) (rest := []) (wc := SWc a kI z19) (wc' := SWc a kI z22) (ws' := (SWc a kI z22) ++ (EWc a0 b0 kI ee0)) (ci := 5) (q0 := 0) hx hb hml hown hts (c_X5_addText fu l dC dI K kI a z19 8 (by decide) H.size z22 e23) gX5_describe_X5_addText qX5_addText rfl ⟨Nat.le_of_ble_eq_true rfl, Nat.le_of_ble_eq_true rfl⟩ ⟨rfl, rfl⟩ hNW hCE hK hP hD hS hA [0, 1] [2, 3, 4, 5, 6, 7, 8, 9, 10, 11] rfl rfl (by decide) (by decide) (by decide) [10, 11, 0, 1, 2, 3, 4, 5, 6, 7, 8, 9] rfl (by decide) hK rfl rfl rfl hl.1 rfl rfl (Nat.le_of_ble_eq_true rfl) dX5_describe_86 z0 (fun H locs hP hD hS => ?_)
    refine lv_aload_n hx hb dX5_describe_89 rfl (lv_at hl 0 rfl) ?_
    refine lv_aload_n hx hb dX5_describe_90 rfl (lv_at hl 1 rfl) ?_
    obtain ⟨z24, e25, hJ⟩ := bnd hJ
    refine rwVvW (As := [.ref (a0 0)]) (rest := []) (ci := 5) (q0 := 0) hx hb hml hown hts (c_X5_addSymbols fu l dC dI kI a z22 a0 b0 ee0 H.size z24 e25) gX5_describe_X5_addSymbols qX5_addSymbols rfl ⟨Nat.le_of_ble_eq_true rfl, Nat.le_of_ble_eq_true rfl⟩ ⟨rfl, rfl⟩ hNW hK hP hD hS hA hK rfl rfl rfl hl.1 rfl rfl (Nat.le_of_ble_eq_true rfl) dX5_describe_91 z0 (fun H locs hP hD hS => ?_)
    refine lv_aload_n hx hb dX5_describe_94 rfl (lv_at hl 0 rfl) ?_
    refine va_ldcS hx hb hown (hCE.2.1 (RX5, 55, ";", 7) (List.mem_of_getElem? (i := 7) rfl)) dX5_describe_95 ?_
    obtain ⟨z26, e27, hJ⟩ := bnd hJ
    refine rwVvc (As := [.ref (K.1 7)]) (rest := []) (wc := SWc a kI z24) (wc' := SWc a kI z26) (ws' := (SWc a kI z26) ++ (EWc a0 b0 kI ee0)) (ci := 5) (q0 := 0) hx hb hml hown hts (c_X5_addText fu l dC dI K kI a z24 7 (by decide) H.size z26 e27) gX5_describe_X5_addText qX5_addText rfl ⟨Nat.le_of_ble_eq_true rfl, Nat.le_of_ble_eq_true rfl⟩ ⟨rfl, rfl⟩ hNW hCE hK hP hD hS hA [0, 1] [2, 3, 4, 5, 6, 7, 8, 9, 10, 11] rfl rfl (by decide) (by decide) (by decide) [10, 11, 0, 1, 2, 3, 4, 5, 6, 7, 8, 9] rfl (by decide) hK rfl rfl rfl hl.1 rfl rfl (Nat.le_of_ble_eq_true rfl) dX5_describe_97 z0 (fun H locs hP hD hS => ?_)
    obtain rfl := Option.some.inj hJ
    exact rw_vret hx hb hr hlocks hP hD hS dX5_describe_100
