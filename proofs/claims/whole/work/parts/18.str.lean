/-! the JDK's String, over the constant texts -/
def j_len (i : Nat) : Int32 := nI (lenT.getD i 0)
def j_chr (i : Nat) (k : Int32) : Option Int32 := if k < 0 ∨ lenT.getD i 0 ≤ k.toNatClampNeg then none else some ((bytT.getD i []).getD k.toNatClampNeg 0)
theorem qJ3_checkIndex_8e157 : (yJ3_checkIndex_8e157.cls = RJ3) ∧ yJ3_checkIndex_8e157.cls ≠ "java/lang/invoke/MethodHandle" ∧ yJ3_checkIndex_8e157.cls ≠ "java/lang/invoke/VarHandle" ∧ (parseMethodDescriptor yJ3_checkIndex_8e157.desc).map (fun d => d.parameters.length) = some 3 := by decide +kernel
theorem qJ0_checkIndex_df160 : (yJ0_checkIndex_df160.cls = RJ0) ∧ yJ0_checkIndex_df160.cls ≠ "java/lang/invoke/MethodHandle" ∧ yJ0_checkIndex_df160.cls ≠ "java/lang/invoke/VarHandle" ∧ (parseMethodDescriptor yJ0_checkIndex_df160.desc).map (fun d => d.parameters.length) = some 2 := by decide +kernel
theorem qJ1_charAt_3b067 : (yJ1_charAt_3b067.cls = RJ1) ∧ yJ1_charAt_3b067.cls ≠ "java/lang/invoke/MethodHandle" ∧ yJ1_charAt_3b067.cls ≠ "java/lang/invoke/VarHandle" ∧ (parseMethodDescriptor yJ1_charAt_3b067.desc).map (fun d => d.parameters.length) = some 2 := by decide +kernel
theorem chT_ok : ∀ i, i < 9 → ∀ k, k < lenT.getD i 0 → narrow .char (.int (((bytT.getD i []).getD k 0 &&& 255).toUInt32 % 65536).toInt32) = .int ((bytT.getD i []).getD k 0) ∧ (((bytT.getD i []).getD k 0 &&& 255).toUInt32 % 65536).toInt32 = (bytT.getD i []).getD k 0 := by decide +kernel
theorem lenT_lt : ∀ i, i < 9 → lenT.getD i 0 < 2 ^ 31 := by decide +kernel
set_option maxHeartbeats 4000000 in
theorem c_J0_coder (l : Launch) (K : KT) (dC : Nat → ClassId) (dI : Nat → Nat → Nat) (i : Nat) (hi : i < 9) : Met l yJ0_coder_7d493 wsJ0_coder_7d493 ({ frames := 0, cells := 0, slots := 0, locals := 0 }) (va_Pc [.ref (K.1 i)] (ROc K dC dI [] [])) (roQi 0) 0 0 (fun _ => False) := by
  refine roc_start (cc := cJ0_coder_7d493) (maxL := 1) (ret := some .byte) (by decide) rfl (Nat.le_of_ble_eq_true rfl) ?_
  intro p e s m args below meth c hx hb hr hml hown hts hlocks hNW hK hCE H locs ls hP hS hl
  have hown : s.vm.findClass RJ0 = some m.cls := hown
  have hl : lv_has ls 1 [(0, .ref (K.1 i))] := hl
  refine va_gets hx hb hCE.2.2.2.1 hS hown (hts (.fieldLink RJ0 38 "java/lang/String" "COMPACT_STRINGS" "Z") (List.mem_of_getElem? (i := 1) rfl)) (fun _ h => h) dJ0_coder_7d493_0 ?_
  refine lv_if_eq (tgt := 13) hx hb dJ0_coder_7d493_3 (by decide) (fun c1 => absurd c1 (by decide)) (fun _ => ?_)
  refine lv_aload_n hx hb dJ0_coder_7d493_6 rfl (lv_at hl 0 rfl) ?_
  refine vk_getf hx hb (hCE.1.1 i hi).2.1 hS hown (hts (.fieldLink RJ0 15 "java/lang/String" "coder" "B") (List.mem_of_getElem? (i := 2) rfl)) (fun _ h => h) dJ0_coder_7d493_7 ?_
  refine lv_goto (tgt := 14) hx hb dJ0_coder_7d493_10 (by decide) ?_
  exact W.zret hx hb hr rfl (fun t ht _ => ⟨⟨0, (), rfl, rfl, trivial⟩, hS.F ht⟩) hS.2.2 dJ0_coder_7d493_14 hlocks
theorem vk_ldcw {p : Program} {l : Launch} {e : Env} {R : Room} {s : State} {m : MethodId} {args : Array Value} {below : List Frame} {meth : Method} {c : Code} {H : Heap} {locs : List Loc} {cells slots : Nat} {Q : State → Prop} {cc : ByteArray} {pc : Nat} {ls : Array Slot} {rest : List Value} (hexec : p.tables.exec = Jvm.exec) (hb : c.code = cc) {own tx : String} {index q : Nat} (hown : s.vm.findClass own = some m.cls) (hZ : vk_R own index tx q s) (hdg : decode cc pc = .ok (.ldc_w index, 3))
    (k : W p l e R s m args below meth c H locs cells slots Q (F0 m (pc + 3) ls (.ref q :: rest))) : W p l e R s m args below meth c H locs cells slots Q (F0 m pc ls rest) := by
  intro T hT X
  obtain ⟨t, a1, b1⟩ := k T hT X
  exact ⟨t, X.ldcStringW hexec hown (text := tx) (a := q) hZ.1 hZ.2 (g := F0 m pc ls rest) rfl (by rw [hb]; exact hdg) t a1, b1⟩
set_option maxHeartbeats 4000000 in
theorem c_J0_length (l : Launch) (K : KT) (dC : Nat → ClassId) (dI : Nat → Nat → Nat) (i : Nat) (hi : i < 9) : Met l yJ0_length_8abf5 wsJ0_length_8abf5 ({ frames := 1, cells := 0, slots := 0, locals := 20 }) (va_Pc [.ref (K.1 i)] (ROc K dC dI [] [])) (roQi (j_len i)) 0 0 (fun _ => False) := by
  refine roc_start (cc := cJ0_length_8abf5) (maxL := 1) (ret := some .int) (by decide) rfl (Nat.le_of_ble_eq_true rfl) ?_
  intro p e s m args below meth c hx hb hr hml hown hts hlocks hNW hK hCE H locs ls hP hS hl
  have hown : s.vm.findClass RJ0 = some m.cls := hown
  have hl : lv_has ls 1 [(0, .ref (K.1 i))] := hl
  refine lv_aload_n hx hb dJ0_length_8abf5_0 rfl (lv_at hl 0 rfl) ?_
  refine vk_getf hx hb (hCE.1.1 i hi).2.2.1 hS hown (hts (.fieldLink RJ0 9 "java/lang/String" "value" "[B") (List.mem_of_getElem? (i := 1) rfl)) (fun _ h => h) dJ0_length_8abf5_1 ?_
  refine va_tlen hx hb (hCE.1.1 i hi).2.2.2 hS (v := nI (lenT.getD i 0)) rfl dJ0_length_8abf5_4 ?_
  refine lv_aload_n hx hb dJ0_length_8abf5_5 rfl (lv_at hl 0 rfl) ?_
  refine roTic (As := []) (rest := [.int (nI (lenT.getD i 0))]) (i := i) hx hb hml hown hts hi (c_J0_coder l K dC dI i hi) gJ0_length_8abf5_J0_coder_7d493 (by decide +kernel) rfl ⟨Nat.le_of_ble_eq_true rfl, Nat.le_of_ble_eq_true rfl⟩ ⟨rfl, rfl⟩ hNW hCE hK hP hS hl.1 rfl rfl (Nat.le_of_ble_eq_true rfl) dJ0_length_8abf5_6 z0 (fun H locs hP hS => ?_)
  refine lv_ishr hx hb dJ0_length_8abf5_9 ?_
  refine ro_iret hx hb hr hlocks hS ?_ dJ0_length_8abf5_10
  exact congrArg some (sc_shr0 (lenT_lt i hi))
set_option maxHeartbeats 4000000 in
theorem c_J0_isLatin1 (l : Launch) (K : KT) (dC : Nat → ClassId) (dI : Nat → Nat → Nat) (i : Nat) (hi : i < 9) : Met l yJ0_isLatin1_aae02 wsJ0_isLatin1_aae02 ({ frames := 0, cells := 0, slots := 0, locals := 0 }) (va_Pc [.ref (K.1 i)] (ROc K dC dI [] [])) (roQi 1) 0 0 (fun _ => False) := by
  refine roc_start (cc := cJ0_isLatin1_aae02) (maxL := 1) (ret := some .boolean) (by decide) rfl (Nat.le_of_ble_eq_true rfl) ?_
  intro p e s m args below meth c hx hb hr hml hown hts hlocks hNW hK hCE H locs ls hP hS hl
  have hown : s.vm.findClass RJ0 = some m.cls := hown
  have hl : lv_has ls 1 [(0, .ref (K.1 i))] := hl
  refine va_gets hx hb hCE.2.2.2.1 hS hown (hts (.fieldLink RJ0 38 "java/lang/String" "COMPACT_STRINGS" "Z") (List.mem_of_getElem? (i := 1) rfl)) (fun _ h => h) dJ0_isLatin1_aae02_0 ?_
  refine lv_if_eq (tgt := 17) hx hb dJ0_isLatin1_aae02_3 (by decide) (fun c1 => absurd c1 (by decide)) (fun _ => ?_)
  refine lv_aload_n hx hb dJ0_isLatin1_aae02_6 rfl (lv_at hl 0 rfl) ?_
  refine vk_getf hx hb (hCE.1.1 i hi).2.1 hS hown (hts (.fieldLink RJ0 15 "java/lang/String" "coder" "B") (List.mem_of_getElem? (i := 2) rfl)) (fun _ h => h) dJ0_isLatin1_aae02_7 ?_
  refine lv_if_ne (tgt := 17) hx hb dJ0_isLatin1_aae02_10 (by decide) (fun c1 => absurd rfl c1) (fun _ => ?_)
  refine lv_iconst (v := 1) hx hb dJ0_isLatin1_aae02_13 (by decide) ?_
  refine lv_goto (tgt := 18) hx hb dJ0_isLatin1_aae02_14 (by decide) ?_
  exact W.zret hx hb hr rfl (fun t ht _ => ⟨⟨1, (), rfl, rfl, trivial⟩, hS.F ht⟩) hS.2.2 dJ0_isLatin1_aae02_18 hlocks
set_option maxHeartbeats 4000000 in
theorem c_J3_checkIndex (l : Launch) (K : KT) (dC : Nat → ClassId) (dI : Nat → Nat → Nat) (a b : Int32) (h0 : ¬ a < 0) (h1 : a < b) (v : Value) (hv : v = .null ∨ ∃ t, v = .ref t) : Met l yJ3_checkIndex_8e157 wsJ3_checkIndex_8e157 ({ frames := 0, cells := 0, slots := 0, locals := 0 }) (va_Pc [.int a, .int b, v] (ROc K dC dI [] [])) (roQi a) 0 0 (fun _ => False) := by
  rcases hv with rfl | ⟨t, rfl⟩
  all_goals
    refine roc_start (cc := cJ3_checkIndex_8e157) (maxL := 3) (ret := some .int) (by decide) rfl (Nat.le_of_ble_eq_true rfl) ?_
    intro p e s m args below meth c hx hb hr hml hown hts hlocks hNW hK hCE H locs ls hP hS hl
    have hl : lv_has ls 3 [(0, .int a), (1, .int b)] := lv_sub hl [0, 1] rfl
    refine lv_iload_n hx hb dJ3_checkIndex_8e157_0 rfl (lv_at hl 0 rfl) ?_
    refine lv_if_lt (tgt := 9) hx hb dJ3_checkIndex_8e157_1 (by decide) (fun c1 => absurd c1 h0) (fun _ => ?_)
    refine lv_iload_n hx hb dJ3_checkIndex_8e157_4 rfl (lv_at hl 0 rfl) ?_
    refine lv_iload_n hx hb dJ3_checkIndex_8e157_5 rfl (lv_at hl 1 rfl) ?_
    refine lv_icmp_lt (tgt := 16) hx hb dJ3_checkIndex_8e157_6 (by decide) (fun _ => ?_) (fun c1 => absurd h1 c1)
    refine lv_iload_n hx hb dJ3_checkIndex_8e157_16 rfl (lv_at hl 0 rfl) ?_
    exact ro_iret hx hb hr hlocks hS rfl dJ3_checkIndex_8e157_17
set_option maxHeartbeats 4000000 in
theorem c_J0_checkIndex (l : Launch) (K : KT) (dC : Nat → ClassId) (dI : Nat → Nat → Nat) (a b : Int32) (h0 : ¬ a < 0) (h1 : a < b) : Met l yJ0_checkIndex_df160 wsJ0_checkIndex_df160 ({ frames := 1, cells := 0, slots := 0, locals := 22 }) (va_Pc [.int a, .int b] (ROc K dC dI [] [])) roQv 0 0 (fun _ => False) := by
  refine roc_start (cc := cJ0_checkIndex_df160) (maxL := 2) (ret := none) (by decide) rfl (Nat.le_of_ble_eq_true rfl) ?_
  intro p e s m args below meth c hx hb hr hml hown hts hlocks hNW hK hCE H locs ls hP hS hl
  have hown : s.vm.findClass RJ0 = some m.cls := hown
  have hl : lv_has ls 2 [(0, .int a), (1, .int b)] := hl
  have key : ∀ v : Value, (v = .null ∨ ∃ t, v = .ref t) → va_Z "jdk/internal/util/Preconditions" "SIOOBE_FORMATTER" "Ljava/util/function/BiFunction;" v (fun _ => False) s s.heap → W p l e { frames := 1, cells := 0, slots := 0, locals := 22 } s m args below meth c H locs 0 0 (MQ below roQv args s 0 0 (fun _ => False)) (F0 m 0 ls []) := by
    intro v hv hZ
    refine lv_iload_n hx hb dJ0_checkIndex_df160_0 rfl (lv_at hl 0 rfl) ?_
    refine lv_iload_n hx hb dJ0_checkIndex_df160_1 rfl (lv_at hl 1 rfl) ?_
    refine va_gets hx hb hZ hS hown (hts (.fieldLink RJ0 1053 "jdk/internal/util/Preconditions" "SIOOBE_FORMATTER" "Ljava/util/function/BiFunction;") (List.mem_of_getElem? (i := 1) rfl)) (fun _ h => h) dJ0_checkIndex_df160_2 ?_
    refine roSic (As := [.int a, .int b, v]) (rest := []) hx hb hml hown hts (c_J3_checkIndex l K dC dI a b h0 h1 v hv) gJ0_checkIndex_df160_J3_checkIndex_8e157 (C := RJ3) qJ3_checkIndex_8e157 rfl ⟨Nat.le_of_ble_eq_true rfl, Nat.le_of_ble_eq_true rfl⟩ ⟨rfl, rfl⟩ hNW hCE hK hP hS hP hK hl.1 rfl rfl (Nat.le_of_ble_eq_true rfl) dJ0_checkIndex_df160_5 z0 (fun H locs hP hS => ?_)
    refine lv_pop hx hb dJ0_checkIndex_df160_8 rfl ?_
    exact ro_vret hx hb hr hlocks hS dJ0_checkIndex_df160_9
  rcases hCE.2.2.2.2.1 with h | ⟨t, h⟩
  · exact key _ (Or.inl rfl) h
  · exact key _ (Or.inr ⟨t, rfl⟩) h
set_option maxHeartbeats 4000000 in
theorem c_J1_charAt (l : Launch) (K : KT) (dC : Nat → ClassId) (dI : Nat → Nat → Nat) (i : Nat) (hi : i < 9) (k z : Int32) (hz : j_chr i k = some z) : Met l yJ1_charAt_3b067 wsJ1_charAt_3b067 ({ frames := 2, cells := 0, slots := 0, locals := 43 }) (va_Pc [.ref (K.2.1 i), .int k] (ROc K dC dI [] [])) (roQi z) 0 0 (fun _ => False) := by
  obtain ⟨hin, hz⟩ := ite_none (show (if k < 0 ∨ lenT.getD i 0 ≤ k.toNatClampNeg then none else some ((bytT.getD i []).getD k.toNatClampNeg 0)) = some z from hz)
  have hz := Option.some.inj hz
  have hL := lenT_lt i hi
  have hin' : vp_in k (lenT.getD i 0) := hin
  obtain ⟨j, hj, hkj⟩ := vp_in_of hin' hL
  have hcl : k.toNatClampNeg = j := by rw [hkj]; exact nI_clamp (by omega)
  obtain ⟨e1, e2⟩ := chT_ok i hi j hj
  rw [← hcl] at e1 e2
  rw [hz] at e1 e2
  refine roc_start (cc := cJ1_charAt_3b067) (maxL := 2) (ret := some .char) (by decide) rfl (Nat.le_of_ble_eq_true rfl) ?_
  intro p e s m args below meth c hx hb hr hml hown hts hlocks hNW hK hCE H locs ls hP hS hl
  have hown : s.vm.findClass RJ1 = some m.cls := hown
  have hl : lv_has ls 2 [(0, .ref (K.2.1 i)), (1, .int k)] := hl
  refine lv_iload_n hx hb dJ1_charAt_3b067_0 rfl (lv_at hl 1 rfl) ?_
  refine lv_aload_n hx hb dJ1_charAt_3b067_1 rfl (lv_at hl 0 rfl) ?_
  refine va_tlen hx hb (hCE.1.1 i hi).2.2.2 hS (v := nI (lenT.getD i 0)) rfl dJ1_charAt_3b067_2 ?_
  refine roSvc (As := [.int k, .int (nI (lenT.getD i 0))]) (rest := []) hx hb hml hown hts (c_J0_checkIndex l K dC dI k (nI (lenT.getD i 0)) (by rw [hkj]; exact nI_pos (by omega)) (by rw [hkj]; exact nI_lt hj hL)) gJ1_charAt_3b067_J0_checkIndex_df160 (C := RJ0) qJ0_checkIndex_df160 rfl ⟨Nat.le_of_ble_eq_true rfl, Nat.le_of_ble_eq_true rfl⟩ ⟨rfl, rfl⟩ hNW hCE hK hP hS hP hK hl.1 rfl rfl (Nat.le_of_ble_eq_true rfl) dJ1_charAt_3b067_3 z0 (fun H locs hP hS => ?_)
  refine lv_aload_n hx hb dJ1_charAt_3b067_6 rfl (lv_at hl 0 rfl) ?_
  refine lv_iload_n hx hb dJ1_charAt_3b067_7 rfl (lv_at hl 1 rfl) ?_
  refine va_tb hx hb (hCE.1.1 i hi).2.2.2 hS hin' (v := .int z) (by show Value.int ((bytT.getD i []).getD k.toNatClampNeg 0) = _; rw [hz]) dJ1_charAt_3b067_8 ?_
  refine lv_sipush (v := 255) hx hb dJ1_charAt_3b067_9 (by decide) ?_
  refine lv_iand hx hb dJ1_charAt_3b067_12 ?_
  refine lv_i2c (v := z) hx hb dJ1_charAt_3b067_13 e2 ?_
  refine W.zret hx hb hr ?_ (fun t ht _ => ⟨⟨z, (), rfl, rfl, trivial⟩, hS.F ht⟩) hS.2.2 dJ1_charAt_3b067_14 hlocks
  rw [e2] at e1
  exact e1
set_option maxHeartbeats 4000000 in
theorem c_J0_charAt (l : Launch) (K : KT) (dC : Nat → ClassId) (dI : Nat → Nat → Nat) (i : Nat) (hi : i < 9) (k z : Int32) (hz : j_chr i k = some z) : Met l yJ0_charAt_5068e wsJ0_charAt_5068e ({ frames := 3, cells := 0, slots := 0, locals := 64 }) (va_Pc [.ref (K.1 i), .int k] (ROc K dC dI [] [])) (roQi z) 0 0 (fun _ => False) := by
  obtain ⟨hin, hz'⟩ := ite_none (show (if k < 0 ∨ lenT.getD i 0 ≤ k.toNatClampNeg then none else some ((bytT.getD i []).getD k.toNatClampNeg 0)) = some z from hz)
  have hz' := Option.some.inj hz'
  have hL := lenT_lt i hi
  have hin' : vp_in k (lenT.getD i 0) := hin
  obtain ⟨j, hj, hkj⟩ := vp_in_of hin' hL
  have hcl : k.toNatClampNeg = j := by rw [hkj]; exact nI_clamp (by omega)
  obtain ⟨e1, e2⟩ := chT_ok i hi j hj
  rw [← hcl] at e1 e2
  rw [hz'] at e1 e2
  refine roc_start (cc := cJ0_charAt_5068e) (maxL := 2) (ret := some .char) (by decide) rfl (Nat.le_of_ble_eq_true rfl) ?_
  intro p e s m args below meth c hx hb hr hml hown hts hlocks hNW hK hCE H locs ls hP hS hl
  have hown : s.vm.findClass RJ0 = some m.cls := hown
  have hl : lv_has ls 2 [(0, .ref (K.1 i)), (1, .int k)] := hl
  refine lv_aload_n hx hb dJ0_charAt_5068e_0 rfl (lv_at hl 0 rfl) ?_
  refine roTic (As := []) (rest := []) (i := i) hx hb hml hown hts hi (c_J0_isLatin1 l K dC dI i hi) gJ0_charAt_5068e_J0_isLatin1_aae02 (by decide +kernel) rfl ⟨Nat.le_of_ble_eq_true rfl, Nat.le_of_ble_eq_true rfl⟩ ⟨rfl, rfl⟩ hNW hCE hK hP hS hl.1 rfl rfl (Nat.le_of_ble_eq_true rfl) dJ0_charAt_5068e_1 z0 (fun H locs hP hS => ?_)
  refine lv_if_eq (tgt := 16) hx hb dJ0_charAt_5068e_4 (by decide) (fun c1 => absurd c1 (by decide)) (fun _ => ?_)
  refine lv_aload_n hx hb dJ0_charAt_5068e_7 rfl (lv_at hl 0 rfl) ?_
  refine vk_getf hx hb (hCE.1.1 i hi).2.2.1 hS hown (hts (.fieldLink RJ0 9 "java/lang/String" "value" "[B") (List.mem_of_getElem? (i := 1) rfl)) (fun _ h => h) dJ0_charAt_5068e_8 ?_
  refine lv_iload_n hx hb dJ0_charAt_5068e_11 rfl (lv_at hl 1 rfl) ?_
  refine roSic (As := [.ref (K.2.1 i), .int k]) (rest := []) hx hb hml hown hts (c_J1_charAt l K dC dI i hi k z hz) gJ0_charAt_5068e_J1_charAt_3b067 (C := RJ1) qJ1_charAt_3b067 rfl ⟨Nat.le_of_ble_eq_true rfl, Nat.le_of_ble_eq_true rfl⟩ ⟨rfl, rfl⟩ hNW hCE hK hP hS hP hK hl.1 rfl rfl (Nat.le_of_ble_eq_true rfl) dJ0_charAt_5068e_12 z0 (fun H locs hP hS => ?_)
  refine W.zret hx hb hr ?_ (fun t ht _ => ⟨⟨z, (), rfl, rfl, trivial⟩, hS.F ht⟩) hS.2.2 dJ0_charAt_5068e_15 hlocks
  rw [e2] at e1
  exact e1
theorem qJ0_length_8abf5 : (yJ0_length_8abf5.cls = RJ0) ∧ yJ0_length_8abf5.cls ≠ "java/lang/invoke/MethodHandle" ∧ yJ0_length_8abf5.cls ≠ "java/lang/invoke/VarHandle" ∧ (parseMethodDescriptor yJ0_length_8abf5.desc).map (fun d => d.parameters.length) = some 0 := by decide +kernel
theorem qJ0_charAt_5068e : (yJ0_charAt_5068e.cls = RJ0) ∧ yJ0_charAt_5068e.cls ≠ "java/lang/invoke/MethodHandle" ∧ yJ0_charAt_5068e.cls ≠ "java/lang/invoke/VarHandle" ∧ (parseMethodDescriptor yJ0_charAt_5068e.desc).map (fun d => d.parameters.length) = some 1 := by decide +kernel
-- the policy's name: a text's place
def J_X7_nameOfPolicy (p0 : Int32) : Option Nat := if p0 = 0 then some 0 else if p0 = 1 then some 1 else some 2
theorem nop_lt {p0 : Int32} {z : Nat} (h : J_X7_nameOfPolicy p0 = some z) : z < 9 := by
  unfold J_X7_nameOfPolicy at h
  by_cases c1 : p0 = 0
  · rw [if_pos c1] at h; cases h; decide
  · rw [if_neg c1] at h
    by_cases c2 : p0 = 1
    · rw [if_pos c2] at h; cases h; decide
    · rw [if_neg c2] at h; cases h; decide
theorem qX7_nameOfPolicy : (yX7_nameOfPolicy.cls = RX7) ∧ yX7_nameOfPolicy.cls ≠ "java/lang/invoke/MethodHandle" ∧ yX7_nameOfPolicy.cls ≠ "java/lang/invoke/VarHandle" ∧ (parseMethodDescriptor yX7_nameOfPolicy.desc).map (fun d => d.parameters.length) = some 1 := by decide +kernel
set_option maxHeartbeats 4000000 in
theorem c_X7_nameOfPolicy (l : Launch) (K : KT) (dC : Nat → ClassId) (dI : Nat → Nat → Nat) (p0 : Int32) (z : Nat) (hJ : J_X7_nameOfPolicy p0 = some z) : Met l yX7_nameOfPolicy wsX7_nameOfPolicy ({ frames := 0, cells := 0, slots := 0, locals := 0 }) (va_Pc [.int p0] (ROc K dC dI [] [])) (roQs K z) 0 0 (fun _ => False) := by
  refine roc_start (cc := cX7_nameOfPolicy) (maxL := 1) (ret := some (.object "java/lang/String")) (by decide) rfl (Nat.le_of_ble_eq_true rfl) ?_
  intro p e s m args below meth c hx hb hr hml hown hts hlocks hNW hK hCE H locs ls hP hS hl
  have hown : s.vm.findClass RX7 = some m.cls := hown
  have hl : lv_has ls 1 [(0, .int p0)] := hl
  unfold J_X7_nameOfPolicy at hJ
  refine lv_iload_n hx hb dX7_nameOfPolicy_0 rfl (lv_at hl 0 rfl) ?_
  refine lv_if_ne (tgt := 8) hx hb dX7_nameOfPolicy_1 (by decide) (fun c1 => ?_) (fun c1 => ?_)
  · have hJ := ite_f c1 hJ
    refine lv_iload_n hx hb dX7_nameOfPolicy_8 rfl (lv_at hl 0 rfl) ?_
    refine lv_iconst (v := 1) hx hb dX7_nameOfPolicy_9 (by decide) ?_
    refine lv_icmp_ne (tgt := 19) hx hb dX7_nameOfPolicy_10 (by decide) (fun c2 => ?_) (fun c2 => ?_)
    · have hJ := Option.some.inj (ite_f c2 hJ)
      subst hJ
      refine vk_ldcw hx hb hown (hCE.2.1 (RX7, 355, "watch", 2) (List.mem_of_getElem? (i := 2) rfl)) dX7_nameOfPolicy_19 ?_
      exact W.aret hx hb hr (Or.inl ⟨_, rfl⟩) (Or.inr ⟨_, rfl⟩) (fun t ht _ => ⟨⟨(), _, rfl, trivial, rfl⟩, hS.F ht⟩) hS.2.2 dX7_nameOfPolicy_22 hlocks
    · have hJ := Option.some.inj (ite_t c2 hJ)
      subst hJ
      refine vk_ldcw hx hb hown (hCE.2.1 (RX7, 353, "reset", 1) (List.mem_of_getElem? (i := 1) rfl)) dX7_nameOfPolicy_13 ?_
      refine lv_goto (tgt := 22) hx hb dX7_nameOfPolicy_16 (by decide) ?_
      exact W.aret hx hb hr (Or.inl ⟨_, rfl⟩) (Or.inr ⟨_, rfl⟩) (fun t ht _ => ⟨⟨(), _, rfl, trivial, rfl⟩, hS.F ht⟩) hS.2.2 dX7_nameOfPolicy_22 hlocks
  · have hJ := Option.some.inj (ite_t c1 hJ)
    subst hJ
    refine vk_ldcw hx hb hown (hCE.2.1 (RX7, 351, "freeze", 0) (List.mem_of_getElem? (i := 0) rfl)) dX7_nameOfPolicy_4 ?_
    exact W.aret hx hb hr (Or.inl ⟨_, rfl⟩) (Or.inr ⟨_, rfl⟩) (fun t ht _ => ⟨⟨(), _, rfl, trivial, rfl⟩, hS.F ht⟩) hS.2.2 dX7_nameOfPolicy_7 hlocks
