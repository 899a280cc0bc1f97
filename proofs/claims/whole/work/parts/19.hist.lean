/-! the history's row of encoders: a state by its place -/
abbrev roQq (r : Option Nat) : Array Value → State → Outcome → State → Prop := va_Qq (S := Unit) (fun r' _ => r' = r) (fun _ _ => True) (fun _ => False)
def stAt (hx : Nat → Nat → Nat) (p0 : Int32) : Option Nat := if p0 < 0 ∨ 10 ≤ p0.toNatClampNeg then none else some (hx p0.toNatClampNeg 0)
def J_X3_copyTo (hh : HS) (p0 : Int32) (ee1 : ES) : Option HS :=
  if p0 < 0 ∨ 10 ≤ p0.toNatClampNeg then some hh else (J_X2_copyFrom (h_states hh p0.toNatClampNeg) ee1).bind fun e => some (mkH (va_up (h_states hh) p0.toNatClampNeg e) (h_savedSlots hh) (h_undoNext hh) (h_undoCount hh))
def J_X3_copyBack (hh : HS) (p0 : Int32) (ee1 : ES) : Option ES :=
  if p0 < 0 ∨ 10 ≤ p0.toNatClampNeg then some ee1 else J_X2_copyFrom ee1 (h_states hh p0.toNatClampNeg)
theorem ge10 {p0 : Int32} (h : (10 : Int32) ≤ p0) : 10 ≤ p0.toNatClampNeg := by
  have h1 := Int32.le_iff_toInt_le.mp h
  have h2 : (10 : Int32).toInt = 10 := by decide
  show 10 ≤ p0.toInt.toNat
  omega
section HIST
variable {dC : Nat → ClassId} {dI : Nat → Nat → Nat} {l : Launch} {p : Program} {e : Env} {R : Room} {s : State} {m : MethodId} {args : Array Value} {below : List Frame} {meth : Method} {c : Code} {H : Heap} {locs : List Loc} {cells slots : Nat} {Q : State → Prop} {cc : ByteArray} {pc : Nat} {ls : Array Slot} {rest st0 : List Value} {A0 : Nat → Prop} {H0 : Heap} {ws : va_W} {tys : List (ClassId × FieldType)}
theorem ro_kq {z : Option Nat} {a : Array Value} (hr : va_Run p l e R s m args below meth c H locs cells slots 0 0 (F0 m pc ls st0) rest (roQq z a) (fun _ => False)) (hP : va_P (dC, dI) vwCl ws H) (hS : va_S A0 H0 H locs)
    (kk : ∀ (H1 : Heap) (locs1 : List Loc), va_P (dC, dI) vwCl ws H1 → va_S A0 H0 H1 locs1 → W p l e R s m args below meth c H1 locs1 cells slots Q (F0 m (pc + 3) ls (va_rf z :: rest))) : W p l e R s m args below meth c H locs cells slots Q (F0 m pc ls st0) := by
  refine va_callq hr hS (fun q _ h => False.elim h) (fun q h => False.elim h) (fun r u t H1 locs1 ht hvm hw hB hz hk hS1 => ?_)
  have hw : r = z := hw
  subst hw
  exact kk H1 locs1 (hP.kept (fun k q hq => hk q.1 (hP k q hq).lt (fun h => h))) hS1
theorem roVq {z : Option Nat} {y : MethodName} {wsC ws9 Ts : List Cond} {rm : Room} {bytes : ByteArray} {maxL nL index n : Nat} {ret : Option FieldType} {own : String} {As : List Value} {wc : va_W} {tc : List (ClassId × FieldType)} {b : Nat} {C : String} {ci q0 : Nat} {qc : vw_C} {fs : List Value} (hx : p.tables.exec = Jvm.exec) (hb : c.code = cc) (hml : c.maxLocals = nL) (hown : s.vm.findClass own = some m.cls) (hts : ∀ w ∈ Ts, w.before args s = true) (hM : Met l y wsC rm (va_Pc (.ref b :: As) (ROp dC dI wc tc)) (roQq z) 0 0 (fun _ => False)) (hG : GoodIn Ts (wsV own index C y wsC)) (hd : y.cls = C ∧ y.cls ≠ "java/lang/invoke/MethodHandle" ∧ y.cls ≠ "java/lang/invoke/VarHandle" ∧ (parseMethodDescriptor y.desc).map (fun d => d.parameters.length) = some n) (hw : wsC = Cond.code y bytes maxL ret :: ws9) (hR : rm.frames + 1 ≤ R.frames ∧ 8 + (maxL + 11) + rm.locals ≤ R.locals) (hcs : rm.cells = 0 ∧ rm.slots = 0) (hNW : NW s) (hK : va_K (dC, dI) vwCl tys s) (hP : va_P (dC, dI) vwCl ws H) (hS : va_S A0 H0 H locs) (hPc : va_P (dC, dI) vwCl wc H) (hKc : va_K (dC, dI) vwCl tc s) (hq : vwCl[ci]? = some qc) (hC9 : qc.1 = C) (he : wc[q0]? = some (b, .inr (ci, fs))) (hsize : ls.size = nL) (hnn : As.length = n) (hst0 : st0 = As.reverse ++ .ref b :: rest) (hroom : (rest.map fun v => v.category).sum ≤ 8) (hdg : decode cc pc = .ok (.invokevirtual index, 3)) (hcl : cells ≤ R.cells ∧ slots ≤ R.slots)
    (kk : ∀ (H1 : Heap) (locs1 : List Loc), va_P (dC, dI) vwCl ws H1 → va_S A0 H0 H1 locs1 → W p l e R s m args below meth c H1 locs1 cells slots Q (F0 m (pc + 3) ls (va_rf z :: rest))) : W p l e R s m args below meth c H locs cells slots Q (F0 m pc ls st0) := by
  obtain ⟨cell, r1, r2, r3⟩ := va_recv hKc hPc hq he
  rw [hC9] at r3
  exact ro_kq (va_runV (As := As) (rest := rest) ⟨hx, hb, hml, hown, hts⟩ hM (cwV n hts hG hw hcs.1 hcs.2 hd hR) ⟨(ro_pre hNW hPc hKc).1, ⟨cell, r1, r2, r3⟩, (ro_pre hNW hPc hKc).2⟩ (g := F0 m pc ls st0) rfl hnn hsize hst0 (lv_room hroom) hdg ⟨hcl.1, hcl.2⟩) hP hS kk
end HIST
theorem qX3_stateAt : (yX3_stateAt.cls = RX3) ∧ yX3_stateAt.cls ≠ "java/lang/invoke/MethodHandle" ∧ yX3_stateAt.cls ≠ "java/lang/invoke/VarHandle" ∧ (parseMethodDescriptor yX3_stateAt.desc).map (fun d => d.parameters.length) = some 1 := by decide +kernel
theorem qX3_copyTo : (yX3_copyTo.cls = RX3) ∧ yX3_copyTo.cls ≠ "java/lang/invoke/MethodHandle" ∧ yX3_copyTo.cls ≠ "java/lang/invoke/VarHandle" ∧ (parseMethodDescriptor yX3_copyTo.desc).map (fun d => d.parameters.length) = some 2 := by decide +kernel
theorem qX3_copyBack : (yX3_copyBack.cls = RX3) ∧ yX3_copyBack.cls ≠ "java/lang/invoke/MethodHandle" ∧ yX3_copyBack.cls ≠ "java/lang/invoke/VarHandle" ∧ (parseMethodDescriptor yX3_copyBack.desc).map (fun d => d.parameters.length) = some 2 := by decide +kernel
set_option maxHeartbeats 4000000 in
theorem c_X3_stateAt (l : Launch) (dC : Nat → ClassId) (dI : Nat → Nat → Nat) (kI kE : ClassId) (ha : Nat → Nat) (hx hy : Nat → Nat → Nat) (hh : HS) (p0 : Int32) : Met l yX3_stateAt wsX3_stateAt ({ frames := 0, cells := 0, slots := 0, locals := 0 }) (va_Pc [.ref (ha 0), .int p0] (ROp dC dI (HWc ha hx hy kE kI hh) [(kI, .int), (kE, .object "LzwCodec$Encoder")])) (roQq (stAt hx p0)) 0 0 (fun _ => False) := by
  refine ro_start (cc := cX3_stateAt) (maxL := 2) (ret := some (.object "LzwCodec$Encoder")) (by decide) rfl (Nat.le_of_ble_eq_true rfl) ?_
  intro p e s m args below meth c hx0 hb hr hml hown hts hlocks hNW hK H locs ls hP hS hl
  have hown : s.vm.findClass RX3 = some m.cls := hown
  have hl : lv_has ls 2 [(0, .ref (ha 0)), (1, .int p0)] := hl
  have nul : stAt hx p0 = none → W p l e { frames := 0, cells := 0, slots := 0, locals := 0 } s m args below meth c H locs 0 0 (MQ below (roQq (stAt hx p0)) args s 0 0 (fun _ => False)) (F0 m 22 ls []) := by
    intro hn
    refine lv_null hx0 hb dX3_stateAt_22 ?_
    exact W.aret hx0 hb hr (Or.inl ⟨_, rfl⟩) (Or.inl rfl) (fun t ht _ => ⟨⟨none, (), rfl, hn.symm, trivial⟩, hS.F ht⟩) hS.2.2 dX3_stateAt_23 hlocks
  refine lv_iload_n hx0 hb dX3_stateAt_0 rfl (lv_at hl 1 rfl) ?_
  refine lv_if_lt (tgt := 22) hx0 hb dX3_stateAt_1 (by decide) (fun c1 => ?_) (fun c1 => ?_)
  · exact nul (if_pos (Or.inl c1))
  · refine lv_iload_n hx0 hb dX3_stateAt_4 rfl (lv_at hl 1 rfl) ?_
    refine lv_aload_n hx0 hb dX3_stateAt_5 rfl (lv_at hl 0 rfl) ?_
    refine va_get (D := (dC, dI)) (ci := 3) (v := .ref (ha 1)) (C := RX3) (T := TX3) (N := 4) hx0 hb hts (fun _ h => List.mem_cons_of_mem _ (List.mem_append_right _ h)) hown hK hP 0 rfl rfl 0 (by decide) (hts _ (List.mem_of_getElem? (i := 1) rfl)) (fun _ h9 => h9) rfl dX3_stateAt_6 ?_
    refine va_alen (v := 10) (x := (10, .inr (.inr (.inr (.inr (fun i => some (hx i 0))))))) hx0 hb hK hP 1 1 rfl rfl rfl dX3_stateAt_9 ?_
    refine lv_icmp_ge (tgt := 22) hx0 hb dX3_stateAt_10 (by decide) (fun c2 => ?_) (fun c2 => ?_)
    · exact nul (if_pos (Or.inr (ge10 c2)))
    · have hin : vp_in p0 10 := by
        rcases pk_ix p0 (n := 10) (by decide) with h | h | ⟨j, hj, rfl⟩
        · exact absurd h c1
        · exact absurd h c2
        · exact vp_in_nI hj (by decide)
      refine lv_aload_n hx0 hb dX3_stateAt_13 rfl (lv_at hl 0 rfl) ?_
      refine va_get (D := (dC, dI)) (ci := 3) (v := .ref (ha 1)) (C := RX3) (T := TX3) (N := 4) hx0 hb hts (fun _ h => List.mem_cons_of_mem _ (List.mem_append_right _ h)) hown hK hP 0 rfl rfl 0 (by decide) (hts _ (List.mem_of_getElem? (i := 1) rfl)) (fun _ h9 => h9) rfl dX3_stateAt_14 ?_
      refine lv_iload_n hx0 hb dX3_stateAt_17 rfl (lv_at hl 1 rfl) ?_
      refine va_aldq (n := 10) (f := fun i => some (hx i 0)) hx0 hb hK hP 1 1 rfl rfl hin dX3_stateAt_18 ?_
      refine lv_goto (tgt := 23) hx0 hb dX3_stateAt_19 (by decide) ?_
      exact W.aret hx0 hb hr (Or.inl ⟨_, rfl⟩) (Or.inr ⟨_, rfl⟩) (fun t ht _ => ⟨⟨some (hx p0.toNatClampNeg 0), (), rfl, (if_neg hin).symm, trivial⟩, hS.F ht⟩) hS.2.2 dX3_stateAt_23 hlocks
def HRc (hx hy : Nat → Nat → Nat) (k : ClassId) (f : Nat → ES) (j : Nat) : va_W := ((List.range 10).erase j).flatMap (fun i => EWc (hx i) (hy i) k (f i))
theorem he_perm {hx hy : Nat → Nat → Nat} {k : ClassId} {f : Nat → ES} {j : Nat} (hj : j < 10) : (HEc hx hy k f).Perm (EWc (hx j) (hy j) k (f j) ++ HRc hx hy k f j) := by
  have h := (List.perm_cons_erase (List.mem_range.mpr hj)).flatMap_right (fun i => EWc (hx i) (hy i) k (f i))
  rw [List.flatMap_cons] at h
  exact h
theorem hr_up {hx hy : Nat → Nat → Nat} {k : ClassId} {f : Nat → ES} {j : Nat} {e : ES} : HRc hx hy k (va_up f j e) j = HRc hx hy k f j := by
  unfold HRc
  rw [List.flatMap_def, List.flatMap_def]
  refine congrArg List.flatten (List.map_congr_left fun i hi => ?_)
  have hne : i ≠ j := fun h => by
    rw [h] at hi
    exact (List.Nodup.mem_erase_iff List.nodup_range).mp hi |>.1 rfl
  show EWc (hx i) (hy i) k (if i = j then e else f i) = _
  rw [if_neg hne]
theorem p4 {α : Type} {A B C D : List α} : ((A ++ (B ++ C)) ++ D).Perm ((B ++ D) ++ (A ++ C)) := by
  have h1 : ((A ++ (B ++ C)) ++ D).Perm ((B ++ (A ++ C)) ++ D) := (List.perm_append_comm_assoc A B C).append_right D
  have h2 : ((B ++ (A ++ C)) ++ D).Perm ((B ++ D) ++ (A ++ C)) := by
    rw [List.append_assoc, List.append_assoc B D]
    exact List.perm_append_comm.append_left B
  exact h1.trans h2
theorem p5 {α : Type} {A B C D : List α} : ((A ++ (B ++ C)) ++ D).Perm ((D ++ B) ++ (A ++ C)) := p4.trans (List.perm_append_comm.append_right _)
abbrev H2c (a : Nat → Nat) (hx : Nat → Nat → Nat) (kE : ClassId) (u : HS) : va_W := [(a 0, .inr (3, [.ref (a 1), .int (h_savedSlots u), .int (h_undoNext u), .int (h_undoCount u)])), (a 1, .inl (kE, 10, .inr (.inr (.inr (.inr (fun i => some (hx i 0)))))))]
theorem h_split {ha : Nat → Nat} {hx hy : Nat → Nat → Nat} {kE k : ClassId} {u : HS} {j : Nat} {E1 : va_W} (hj : j < 10) : (HWc ha hx hy kE k u ++ E1).Perm ((EWc (hx j) (hy j) k (h_states u j) ++ E1) ++ (H2c ha hx kE u ++ HRc hx hy k (h_states u) j)) :=
  (((he_perm hj).append_left (H2c ha hx kE u)).append_right E1).trans p4
theorem h_split' {ha : Nat → Nat} {hx hy : Nat → Nat → Nat} {kE k : ClassId} {u : HS} {j : Nat} {E1 : va_W} (hj : j < 10) : (HWc ha hx hy kE k u ++ E1).Perm ((E1 ++ EWc (hx j) (hy j) k (h_states u j)) ++ (H2c ha hx kE u ++ HRc hx hy k (h_states u) j)) :=
  (((he_perm hj).append_left (H2c ha hx kE u)).append_right E1).trans p5
theorem h_split_up {ha : Nat → Nat} {hx hy : Nat → Nat → Nat} {kE k : ClassId} {u : HS} {j : Nat} {E1 : va_W} {e : ES} (hj : j < 10) : ((EWc (hx j) (hy j) k e ++ E1) ++ (H2c ha hx kE u ++ HRc hx hy k (h_states u) j)).Perm (HWc ha hx hy kE k (mkH (va_up (h_states u) j e) (h_savedSlots u) (h_undoNext u) (h_undoCount u)) ++ E1) := by
  have h := (h_split (ha := ha) (hx := hx) (hy := hy) (kE := kE) (k := k) (u := mkH (va_up (h_states u) j e) (h_savedSlots u) (h_undoNext u) (h_undoCount u)) (E1 := E1) hj).symm
  have e1 : h_states (mkH (va_up (h_states u) j e) (h_savedSlots u) (h_undoNext u) (h_undoCount u)) j = e := if_pos rfl
  rw [e1] at h
  have e2 : HRc hx hy k (h_states (mkH (va_up (h_states u) j e) (h_savedSlots u) (h_undoNext u) (h_undoCount u))) j = HRc hx hy k (h_states u) j := hr_up
  rw [e2] at h
  exact h
set_option maxHeartbeats 4000000 in
theorem c_X3_copyTo (l : Launch) (dC : Nat → ClassId) (dI : Nat → Nat → Nat) (kI kE : ClassId) (ha : Nat → Nat) (hx hy : Nat → Nat → Nat) (hh : HS) (p0 : Int32) (a1 b1 : Nat → Nat) (ee1 : ES) (sz : Nat) (z : HS) (hJ : J_X3_copyTo hh p0 ee1 = some z) : Met l yX3_copyTo wsX3_copyTo ({ frames := 4, cells := 0, slots := 0, locals := 200 }) (va_Pc [.ref (ha 0), .int p0, .ref (a1 0)] (RWp dC dI sz ((HWc ha hx hy kE kI hh) ++ (EWc a1 b1 kI ee1)) [(kI, .int), (kE, .object "LzwCodec$Encoder")])) (rwQv dC dI (va_A ((HWc ha hx hy kE kI hh) ++ (EWc a1 b1 kI ee1)) sz) ((HWc ha hx hy kE kI z) ++ (EWc a1 b1 kI ee1))) 0 0 (va_A ((HWc ha hx hy kE kI hh) ++ (EWc a1 b1 kI ee1)) sz) := by
  refine rw_start (Qc := fun A => rwQv dC dI A ((HWc ha hx hy kE kI z) ++ (EWc a1 b1 kI ee1))) (cc := cX3_copyTo) (maxL := 4) (ret := none) (by decide) rfl (Nat.le_of_ble_eq_true rfl) ?_
  intro p e s m args below meth c hx0 hb hr hml hown hts hlocks hNW hK A hA H locs ls hP hD hS hl
  have hown : s.vm.findClass RX3 = some m.cls := hown
  have hl : lv_has ls 4 [(0, .ref (ha 0)), (1, .int p0), (2, .ref (a1 0))] := hl
  refine lv_aload_n hx0 hb dX3_copyTo_0 rfl (lv_at hl 0 rfl) ?_
  refine lv_iload_n hx0 hb dX3_copyTo_1 rfl (lv_at hl 1 rfl) ?_
  refine roVq (As := [.int p0]) (rest := []) (ci := 3) (q0 := 0) hx0 hb hml hown hts (c_X3_stateAt l dC dI kI kE ha hx hy hh p0) gX3_copyTo_X3_stateAt qX3_stateAt rfl ⟨Nat.le_of_ble_eq_true rfl, Nat.le_of_ble_eq_true rfl⟩ ⟨rfl, rfl⟩ hNW hK hP hS (va_P_iff.mpr fun q hq => va_P_iff.mp hP q (List.mem_append_left _ hq)) hK rfl rfl rfl hl.1 rfl rfl (Nat.le_of_ble_eq_true rfl) dX3_copyTo_2 z0 (fun H locs hP hS => ?_)
  by_cases hc : p0 < 0 ∨ 10 ≤ p0.toNatClampNeg
  · have e0 : stAt hx p0 = none := if_pos hc
    have hJ := Option.some.inj (ite_t hc hJ)
    subst hJ
    rw [e0]
    refine lv_astore_nN (lv' := [(3, .null), (0, .ref (ha 0)), (1, .int p0), (2, .ref (a1 0))]) hx0 hb dX3_copyTo_5 rfl hl (by decide) rfl (fun ls hl => ?_)
    refine lv_aload_nN hx0 hb dX3_copyTo_6 rfl (lv_at hl 0 rfl) ?_
    refine lv_ifnullN (tgt := 15) hx0 hb dX3_copyTo_7 (by decide) ?_
    exact rw_vret hx0 hb hr hlocks hP hD hS dX3_copyTo_15
  · have e0 : stAt hx p0 = some (hx p0.toNatClampNeg 0) := if_neg hc
    have hJ := ite_f hc hJ
    have hj : p0.toNatClampNeg < 10 := Nat.lt_of_not_le fun h => hc (Or.inr h)
    rw [e0]
    generalize p0.toNatClampNeg = j at hJ hj ⊢
    obtain ⟨z1, e1, hJ⟩ := bnd hJ
    have hJ := Option.some.inj hJ
    subst hJ
    refine lv_astore_n (lv' := [(3, .ref (hx j 0)), (0, .ref (ha 0)), (1, .int p0), (2, .ref (a1 0))]) hx0 hb dX3_copyTo_5 rfl hl (by decide) rfl (fun ls hl => ?_)
    refine lv_aload_n hx0 hb dX3_copyTo_6 rfl (lv_at hl 0 rfl) ?_
    refine lv_ifnull hx0 hb dX3_copyTo_7 ?_
    refine lv_aload_n hx0 hb dX3_copyTo_10 rfl (lv_at hl 0 rfl) ?_
    refine lv_aload_n hx0 hb dX3_copyTo_11 rfl (lv_at hl 3 rfl) ?_
    refine rwVvB (As := [.ref (a1 0)]) (rest := []) (wc := (EWc (hx j) (hy j) kI (h_states hh j)) ++ (EWc a1 b1 kI ee1)) (wr := H2c ha hx kE hh ++ HRc hx hy kI (h_states hh) j) (wc' := (EWc (hx j) (hy j) kI z1) ++ (EWc a1 b1 kI ee1)) (ws' := (HWc ha hx hy kE kI (mkH (va_up (h_states hh) j z1) (h_savedSlots hh) (h_undoNext hh) (h_undoCount hh))) ++ (EWc a1 b1 kI ee1)) (ci := 2) (q0 := 0) hx0 hb hml hown hts (c_X2_copyFrom l dC dI kI (hx j) (hy j) (h_states hh j) a1 b1 ee1 H.size z1 e1) gX3_copyTo_X2_copyFrom qX2_copyFrom rfl ⟨Nat.le_of_ble_eq_true rfl, Nat.le_of_ble_eq_true rfl⟩ ⟨rfl, rfl⟩ hNW hK hP hD hS hA (h_split hj) (h_split_up hj) (hK.sub (tys' := [(kI, .int)]) [0] rfl) rfl rfl rfl hl.1 rfl rfl (Nat.le_of_ble_eq_true rfl) dX3_copyTo_12 z0 (fun H locs hP hD hS => ?_)
    exact rw_vret hx0 hb hr hlocks hP hD hS dX3_copyTo_15
set_option maxHeartbeats 4000000 in
theorem c_X3_copyBack (l : Launch) (dC : Nat → ClassId) (dI : Nat → Nat → Nat) (kI kE : ClassId) (ha : Nat → Nat) (hx hy : Nat → Nat → Nat) (hh : HS) (p0 : Int32) (a1 b1 : Nat → Nat) (ee1 : ES) (sz : Nat) (z : ES) (hJ : J_X3_copyBack hh p0 ee1 = some z) : Met l yX3_copyBack wsX3_copyBack ({ frames := 4, cells := 0, slots := 0, locals := 200 }) (va_Pc [.ref (ha 0), .int p0, .ref (a1 0)] (RWp dC dI sz ((HWc ha hx hy kE kI hh) ++ (EWc a1 b1 kI ee1)) [(kI, .int), (kE, .object "LzwCodec$Encoder")])) (rwQv dC dI (va_A ((HWc ha hx hy kE kI hh) ++ (EWc a1 b1 kI ee1)) sz) ((HWc ha hx hy kE kI hh) ++ (EWc a1 b1 kI z))) 0 0 (va_A ((HWc ha hx hy kE kI hh) ++ (EWc a1 b1 kI ee1)) sz) := by
  refine rw_start (Qc := fun A => rwQv dC dI A ((HWc ha hx hy kE kI hh) ++ (EWc a1 b1 kI z))) (cc := cX3_copyBack) (maxL := 4) (ret := none) (by decide) rfl (Nat.le_of_ble_eq_true rfl) ?_
  intro p e s m args below meth c hx0 hb hr hml hown hts hlocks hNW hK A hA H locs ls hP hD hS hl
  have hown : s.vm.findClass RX3 = some m.cls := hown
  have hl : lv_has ls 4 [(0, .ref (ha 0)), (1, .int p0), (2, .ref (a1 0))] := hl
  refine lv_aload_n hx0 hb dX3_copyBack_0 rfl (lv_at hl 0 rfl) ?_
  refine lv_iload_n hx0 hb dX3_copyBack_1 rfl (lv_at hl 1 rfl) ?_
  refine roVq (As := [.int p0]) (rest := []) (ci := 3) (q0 := 0) hx0 hb hml hown hts (c_X3_stateAt l dC dI kI kE ha hx hy hh p0) gX3_copyBack_X3_stateAt qX3_stateAt rfl ⟨Nat.le_of_ble_eq_true rfl, Nat.le_of_ble_eq_true rfl⟩ ⟨rfl, rfl⟩ hNW hK hP hS (va_P_iff.mpr fun q hq => va_P_iff.mp hP q (List.mem_append_left _ hq)) hK rfl rfl rfl hl.1 rfl rfl (Nat.le_of_ble_eq_true rfl) dX3_copyBack_2 z0 (fun H locs hP hS => ?_)
  by_cases hc : p0 < 0 ∨ 10 ≤ p0.toNatClampNeg
  · have e0 : stAt hx p0 = none := if_pos hc
    have hJ := Option.some.inj (ite_t hc hJ)
    subst hJ
    rw [e0]
    refine lv_astore_nN (lv' := [(3, .null), (0, .ref (ha 0)), (1, .int p0), (2, .ref (a1 0))]) hx0 hb dX3_copyBack_5 rfl hl (by decide) rfl (fun ls hl => ?_)
    refine lv_aload_nN hx0 hb dX3_copyBack_6 rfl (lv_at hl 0 rfl) ?_
    refine lv_ifnullN (tgt := 15) hx0 hb dX3_copyBack_7 (by decide) ?_
    exact rw_vret hx0 hb hr hlocks hP hD hS dX3_copyBack_15
  · have e0 : stAt hx p0 = some (hx p0.toNatClampNeg 0) := if_neg hc
    have hJ := ite_f hc hJ
    have hj : p0.toNatClampNeg < 10 := Nat.lt_of_not_le fun h => hc (Or.inr h)
    rw [e0]
    generalize p0.toNatClampNeg = j at hJ hj ⊢
    refine lv_astore_n (lv' := [(3, .ref (hx j 0)), (0, .ref (ha 0)), (1, .int p0), (2, .ref (a1 0))]) hx0 hb dX3_copyBack_5 rfl hl (by decide) rfl (fun ls hl => ?_)
    refine lv_aload_n hx0 hb dX3_copyBack_6 rfl (lv_at hl 0 rfl) ?_
    refine lv_ifnull hx0 hb dX3_copyBack_7 ?_
    refine lv_aload_n hx0 hb dX3_copyBack_10 rfl (lv_at hl 3 rfl) ?_
    refine lv_aload_n hx0 hb dX3_copyBack_11 rfl (lv_at hl 0 rfl) ?_
    refine rwVvB (As := [.ref (hx j 0)]) (rest := []) (wc := (EWc a1 b1 kI ee1) ++ (EWc (hx j) (hy j) kI (h_states hh j))) (wr := H2c ha hx kE hh ++ HRc hx hy kI (h_states hh) j) (wc' := (EWc a1 b1 kI z) ++ (EWc (hx j) (hy j) kI (h_states hh j))) (ws' := (HWc ha hx hy kE kI hh) ++ (EWc a1 b1 kI z)) (ci := 2) (q0 := 0) hx0 hb hml hown hts (c_X2_copyFrom l dC dI kI a1 b1 ee1 (hx j) (hy j) (h_states hh j) H.size z hJ) gX3_copyBack_X2_copyFrom qX2_copyFrom rfl ⟨Nat.le_of_ble_eq_true rfl, Nat.le_of_ble_eq_true rfl⟩ ⟨rfl, rfl⟩ hNW hK hP hD hS hA (h_split' hj) (h_split' hj).symm (hK.sub (tys' := [(kI, .int)]) [0] rfl) rfl rfl rfl hl.1 rfl rfl (Nat.le_of_ble_eq_true rfl) dX3_copyBack_12 z0 (fun H locs hP hD hS => ?_)
    exact rw_vret hx0 hb hr hlocks hP hD hS dX3_copyBack_15
