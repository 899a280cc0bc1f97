abbrev hE0 : ES := (mkE (mkD (fun _ => 0) (fun _ => 0) (fun _ => 0) (fun _ => 0) (fun _ => 0) 0 0 0) 0 0 (-1) (fun _ => 0) 0 (fun _ => 0) (fun _ => 0) 0 0 0 0 0 0)
def RWo (dC : Nat → ClassId) (dI : Nat → Nat → Nat) (sz : Nat) (ws : va_W) (tys : List (ClassId × FieldType)) (U : State) : Prop := RWp dC dI sz ws tys U ∧ va_AO "LzwCodec$Encoder" U
theorem RWo.blind {dC : Nat → ClassId} {dI : Nat → Nat → Nat} {sz : Nat} {ws : va_W} {tys : List (ClassId × FieldType)} {As : List Value} : FrameBlind (va_Pc As (RWo dC dI sz ws tys)) := fun a U g mk h => by
  obtain ⟨h1, h2, h3⟩ := h
  exact ⟨h1, (RWp.blind (As := As) a U g mk ⟨h1, h2⟩).2, h3⟩
theorem cell_cong {kE : ClassId} {n : Nat} {f f' : Nat → Option Nat} (h : ∀ j, j < n → f j = f' j) : vp_cell kE (n, .inr (.inr (.inr (.inr f)))) = vp_cell kE (n, .inr (.inr (.inr (.inr f')))) := by
  rw [vp_cell_q, vp_cell_q]
  have e : (fun j : Fin n => va_rf (f j.val)) = (fun j : Fin n => va_rf (f' j.val)) := by funext j; rw [h j.val j.isLt]
  show ({ cls := kE, slots := Array.ofFn (fun j : Fin n => va_rf (f j.val)), vm := .none } : Cell) = ({ cls := kE, slots := Array.ofFn (fun j : Fin n => va_rf (f' j.val)), vm := .none } : Cell)
  rw [e]
theorem fm_cong {α β : Type} {f g : α → List β} : ∀ (l : List α), (∀ x ∈ l, f x = g x) → l.flatMap f = l.flatMap g
  | [], _ => rfl
  | x :: l, h => by rw [List.flatMap_cons, List.flatMap_cons, h x (List.mem_cons_self ..), fm_cong l (fun y hy => h y (List.mem_cons_of_mem _ hy))]
theorem vp_inN (i n : Nat) (hi : i < n) (hn : n < 2147483648) : vp_in (nI i) n := by
  intro h9
  rcases h9 with h9 | h9
  · have h8 : (nI i < nI 0) = (i < 0) := nq_lt _ _ (by omega) (by omega)
    have h7 : i < 0 := h8 ▸ (show nI i < nI 0 from h9)
    omega
  · rw [nq_tn _ (by omega)] at h9; omega
def wH (h0 q1 : Nat) (kE kI : ClassId) (i : Nat) (f : Nat → Option Nat) (ux uy : Nat → Nat → Nat) : va_W := (h0, .inr (3, [.ref q1, .int 0, .int 0, .int 0])) :: (q1, .inl (kE, 10, .inr (.inr (.inr (.inr f))))) :: (List.range i).flatMap (fun j => EWc (ux j) (uy j) kI hE0)
theorem wH_next (h0 q1 : Nat) (kE kI : ClassId) (i : Nat) (f f2 : Nat → Option Nat) (ux uy : Nat → Nat → Nat) (a b : Nat → Nat) : (wH h0 q1 kE kI i f ux uy ++ EWc a b kI hE0).set 1 (q1, .inl (kE, 10, .inr (.inr (.inr (.inr f2))))) = wH h0 q1 kE kI (i + 1) f2 (fun j => if j = i then a else ux j) (fun j => if j = i then b else uy j) := by
  show (h0, _) :: (q1, _) :: ((List.range i).flatMap (fun j => EWc (ux j) (uy j) kI hE0) ++ EWc a b kI hE0) = (h0, _) :: (q1, _) :: (List.range (i + 1)).flatMap _
  rw [List.range_succ, List.flatMap_append]
  have e1 : (List.range i).flatMap (fun j => EWc (ux j) (uy j) kI hE0) = (List.range i).flatMap (fun j => EWc (if j = i then a else ux j) (if j = i then b else uy j) kI hE0) := by
    refine fm_cong _ (fun j hj => ?_)
    rw [if_neg (Nat.ne_of_lt (List.mem_range.mp hj)), if_neg (Nat.ne_of_lt (List.mem_range.mp hj))]
  rw [e1]
  simp [List.flatMap_cons, List.flatMap_nil]
theorem wH_end {D : va_G} {A : Nat → Prop} {H : Heap} {h0 q1 : Nat} {kE kI : ClassId} {f f2 : Nat → Option Nat} {ux uy : Nat → Nat → Nat} (hP : va_P D vwCl (wH h0 q1 kE kI 10 f ux uy) H) (hD : va_D A (wH h0 q1 kE kI 10 f ux uy)) (h : ∀ j, j < 10 → f j = f2 j) : va_P D vwCl (wH h0 q1 kE kI 10 f2 ux uy) H ∧ va_D A (wH h0 q1 kE kI 10 f2 ux uy) := by
  have hp : (wH h0 q1 kE kI 10 f ux uy)[1]? = some (q1, .inl (kE, 10, .inr (.inr (.inr (.inr f))))) := rfl
  refine ⟨hP.set hD hp ?_ (fun q _ => rfl), hD.set hp⟩
  have h9 := hP 1 _ hp
  show H[q1]? = some (vp_cell _ _)
  rw [← cell_cong h]
  exact h9
theorem ct_startO {dC : Nat → ClassId} {dI : Nat → Nat → Nat} {l : Launch} {y : MethodName} {ws0 ws' : List Cond} {rm : Room} {Bc : (Nat → Prop) → State → Prop} {cc : ByteArray} {maxL mc ms sz : Nat} {ret : Option FieldType} {As : List Value} {ws : va_W} {tys : List (ClassId × FieldType)}
    (hy : plainName y.cls = true) (hw : ws0 = Cond.code y cc maxL ret :: ws') (hn : (lg_sl As).length ≤ maxL)
    (body : ∀ (p : Program) (e : Env) (s : State) (m : MethodId) (args : Array Value) (below : List Frame) (meth : Method) (c : Code), p.tables.exec = Jvm.exec → c.code = cc → meth.sig.returnType = ret → c.maxLocals = maxL → s.vm.findClass y.cls = some m.cls → (∀ w ∈ ws0, w.before args s = true) → meth.locks = false → NW s → va_K (dC, dI) vwCl tys s → meth.name = y.name → va_AO "LzwCodec$Encoder" s →
      ∀ (A : Nat → Prop), (∀ q : Nat, s.heap.size ≤ q → A q) → ∀ (H : Heap) (locs : List Loc) (ls : Array Slot), va_P (dC, dI) vwCl ws H → va_D A ws → va_S A s.heap H locs → lv_has ls maxL (lv_args 0 As) → W p l e rm s m args below meth c H locs 0 0 (MQ below (ctQ Bc A) args s mc ms A) (F0 m 0 ls [])) :
    Met l y ws0 rm (va_Pc As (RWo dC dI sz ws tys)) (ctQ Bc (va_A ws sz)) mc ms (va_A ws sz) := by
  refine Met.ofW (cc := cc) (maxL := maxL) (ret := ret) hy hw ?_
  intro p e s m args below meth c s₁ B hml hv
  obtain ⟨rfl, ⟨hsz, hP, hK, hD, hNW⟩, hAO⟩ := hv
  have hl := lv_entry As (n := maxL) hn
  rw [lg_entry_eq]
  subst hsz
  exact body p e s m _ below meth c B.exec B.bytes B.returns hml (findClass_of_methodNamed B.named) (atoms_spec (ws := ws0) B.pre) B.notSynchronized hNW hK (name_of_methodNamed B.named B.method).1 hAO _ (fun q h => Or.inr h) s.heap [] _ hP hD.self va_S.rf hl
theorem qX3_init : (yX3_init.cls = RX3) ∧ yX3_init.cls ≠ "java/lang/invoke/MethodHandle" ∧ yX3_init.cls ≠ "java/lang/invoke/VarHandle" ∧ (parseMethodDescriptor yX3_init.desc).map (fun d => d.parameters.length) = some 0 := by decide +kernel
set_option maxHeartbeats 4000000 in
set_option maxRecDepth 100000 in
theorem k_X3 (l : Launch) (dC : Nat → ClassId) (dI : Nat → Nat → Nat) (kI : ClassId) (h0 sz : Nat) : Met l yX3_init wsX3_init ({ frames := 3, cells := 101, slots := 33030, locals := 52 }) (va_Pc [.ref h0] (RWo dC dI sz ([(h0, .inr (3, [.null, .int 0, .int 0, .int 0]))]) [(kI, .int)])) (ctQ (fun A t => ∃ a : Nat → Nat, ∃ ux : Nat → Nat → Nat, ∃ uy : Nat → Nat → Nat, ∃ kE : ClassId, a 0 = h0 ∧ va_K (dC, dI) vwCl [(kE, .object "LzwCodec$Encoder")] t ∧ va_P (dC, dI) vwCl (HWc a ux uy kE kI (mkH (fun _ => hE0) 0 0 0)) t.heap ∧ va_D A (HWc a ux uy kE kI (mkH (fun _ => hE0) 0 0 0))) (va_A ([(h0, .inr (3, [.null, .int 0, .int 0, .int 0]))]) sz)) 101 33030 (va_A ([(h0, .inr (3, [.null, .int 0, .int 0, .int 0]))]) sz) := by
  refine ct_startO (cc := cX3_init) (maxL := 2) (ret := none) (by decide) rfl (Nat.le_of_ble_eq_true rfl) ?_
  intro p e s m args below meth c hx hb hr hml hown hts hlocks hNW hK hin hAO A hA H locs ls hP hD hS hl
  have hown : s.vm.findClass RX3 = some m.cls := hown
  have hl : lv_has ls 2 [(0, .ref h0)] := hl
  refine lv_aload_n hx hb dX3_init_0 rfl (lv_at hl 0 rfl) ?_
  refine W.objInit hx hb hown (hts _ (List.mem_of_getElem? (i := 1) rfl)) (hts _ (List.mem_of_getElem? (i := 2) rfl)) (hts _ (List.mem_of_getElem? (i := 3) rfl)) rfl (by rw [hml]; exact hl.1) rfl dX3_init_1 (Nat.le_of_ble_eq_true rfl) (Nat.le_of_ble_eq_true rfl) ?_
  refine W.eq (g2 := F0 m 4 ls []) rfl ?_
  refine lv_aload_n hx hb dX3_init_4 rfl (lv_at hl 0 rfl) ?_
  refine lv_bipush (v := 10) hx hb dX3_init_5 (by decide) ?_
  refine va_newq (N' := 10) hx hb hown (hts _ (List.mem_of_getElem? (i := 4) rfl)) hAO hK hP hD hS hA (by decide) (by decide) (Nat.le_of_ble_eq_true rfl) (Nat.le_of_ble_eq_true rfl) (Nat.le_of_ble_eq_true rfl) dX3_init_7 (fun q1 kE H hK hP hD hS => ?_)
  have hK : va_K (dC, dI) vwCl [(kI, .int), (kE, .object "LzwCodec$Encoder")] s := hK
  have hP : va_P (dC, dI) vwCl ([(h0, .inr (3, [.null, .int 0, .int 0, .int 0])), (q1, .inl (kE, 10, .inr (.inr (.inr (.inr (fun _ => none))))))]) H := hP
  have hD : va_D A ([(h0, .inr (3, [.null, .int 0, .int 0, .int 0])), (q1, .inl (kE, 10, .inr (.inr (.inr (.inr (fun _ => none))))))]) := hD
  refine W.widen (k := 1) (n := 10) (Nat.le_of_ble_eq_true rfl) (Nat.le_of_ble_eq_true rfl) ?_
  refine va_putF (D := (dC, dI)) (ci := 3) (v := .ref q1) (ty := .array (.object "LzwCodec$Encoder")) (C := RX3) (T := TX3) (N := 4) hx hb hts (fun _ h => List.mem_cons_of_mem _ (List.mem_append_left _ (List.mem_append_left _ (List.mem_append_right _ h)))) tyX3 tyX3_ok nmX3 hown hK hP hD hS 0 rfl rfl 0 (by decide) (hts _ (List.mem_of_getElem? (i := 5) rfl)) (fun _ h9 => h9) rfl hin rfl (by decide +kernel) rfl rfl (Nat.le_of_ble_eq_true rfl) dX3_init_10 (fun H locs hP hD hS => ?_)
  have hP : va_P (dC, dI) vwCl (wH h0 q1 kE kI 0 (fun _ => none) (fun _ _ => 0) (fun _ _ => 0)) H := hP
  have hD : va_D A (wH h0 q1 kE kI 0 (fun _ => none) (fun _ _ => 0) (fun _ _ => 0)) := hD
  have loop : ∀ (k i : Nat), i + k = 10 → ∀ (H : Heap) (locs : List Loc) (ls : Array Slot) (f : Nat → Option Nat) (ux uy : Nat → Nat → Nat), va_P (dC, dI) vwCl (wH h0 q1 kE kI i f ux uy) H → va_D A (wH h0 q1 kE kI i f ux uy) → va_S A s.heap H locs → lv_has ls 2 [(1, .int (nI i)), (0, .ref h0)] → (∀ j, j < i → f j = some (ux j 0)) → W p l e ({ frames := 3, cells := 101, slots := 33030, locals := 52 }) s m args below meth c H locs (1 + i * 10) (10 + i * 3302) (MQ below (ctQ (fun A t => ∃ a : Nat → Nat, ∃ ux : Nat → Nat → Nat, ∃ uy : Nat → Nat → Nat, ∃ kE : ClassId, a 0 = h0 ∧ va_K (dC, dI) vwCl [(kE, .object "LzwCodec$Encoder")] t ∧ va_P (dC, dI) vwCl (HWc a ux uy kE kI (mkH (fun _ => hE0) 0 0 0)) t.heap ∧ va_D A (HWc a ux uy kE kI (mkH (fun _ => hE0) 0 0 0))) A) args s 101 33030 A) (F0 m 15 ls []) := by
    intro k
    induction k with
    | zero =>
      intro i hi H locs ls f ux uy hP hD hS hl hf
      have hi : i = 10 := by omega
      subst hi
      refine lv_iload_n hx hb dX3_init_15 rfl (lv_at hl 0 rfl) ?_
      refine lv_aload_n hx hb dX3_init_16 rfl (lv_at hl 1 rfl) ?_
      refine va_get (D := (dC, dI)) (ci := 3) (v := .ref q1) (C := RX3) (T := TX3) (N := 4) hx hb hts (fun _ h => List.mem_cons_of_mem _ (List.mem_append_left _ (List.mem_append_left _ (List.mem_append_right _ h)))) hown hK hP 0 rfl rfl 0 (by decide) (hts _ (List.mem_of_getElem? (i := 5) rfl)) (fun _ h9 => h9) rfl dX3_init_17 ?_
      refine va_alen (v := nI 10) (x := (10, .inr (.inr (.inr (.inr f))))) hx hb hK hP 1 1 rfl rfl rfl dX3_init_20 ?_
      refine lv_icmp_ge (tgt := 43) hx hb dX3_init_21 (by decide) (fun _ => ?_) (fun c1 => absurd (by decide) c1)
      obtain ⟨hP, hD⟩ := wH_end (f2 := fun i => some (ux i 0)) hP hD hf
      exact W.vret hx hb hr (fun t ht hW => ⟨⟨(), rfl, trivial, (fun i => [h0, q1].getD i 0), ux, uy, kE, rfl, va_K.moved hW.alike (hK.sub (tys' := [(kE, .object "LzwCodec$Encoder")]) [1] rfl), by rw [ht]; exact hP, hD⟩, hS.F ht⟩) hS.2.2 dX3_init_43 hlocks
    | succ k ih =>
      intro i hi H locs ls f ux uy hP hD hS hl hf
      refine lv_iload_n hx hb dX3_init_15 rfl (lv_at hl 0 rfl) ?_
      refine lv_aload_n hx hb dX3_init_16 rfl (lv_at hl 1 rfl) ?_
      refine va_get (D := (dC, dI)) (ci := 3) (v := .ref q1) (C := RX3) (T := TX3) (N := 4) hx hb hts (fun _ h => List.mem_cons_of_mem _ (List.mem_append_left _ (List.mem_append_left _ (List.mem_append_right _ h)))) hown hK hP 0 rfl rfl 0 (by decide) (hts _ (List.mem_of_getElem? (i := 5) rfl)) (fun _ h9 => h9) rfl dX3_init_17 ?_
      refine va_alen (v := nI 10) (x := (10, .inr (.inr (.inr (.inr f))))) hx hb hK hP 1 1 rfl rfl rfl dX3_init_20 ?_
      refine lv_icmp_ge (tgt := 43) hx hb dX3_init_21 (by decide) (fun c1 => absurd c1 (by rw [nq_le _ _ (by omega) (by omega)]; omega)) (fun _ => ?_)
      refine lv_aload_n hx hb dX3_init_24 rfl (lv_at hl 1 rfl) ?_
      refine va_get (D := (dC, dI)) (ci := 3) (v := .ref q1) (C := RX3) (T := TX3) (N := 4) hx hb hts (fun _ h => List.mem_cons_of_mem _ (List.mem_append_left _ (List.mem_append_left _ (List.mem_append_right _ h)))) hown hK hP 0 rfl rfl 0 (by decide) (hts _ (List.mem_of_getElem? (i := 5) rfl)) (fun _ h9 => h9) rfl dX3_init_25 ?_
      refine lv_iload_n hx hb dX3_init_28 rfl (lv_at hl 0 rfl) ?_
      refine va_new (ci := 2) (fs := [.null, .int 0, .int 0, .int 0, .null, .int 0, .null, .null, .int 0, .int 0, .int 0, .int 0, .int 0, .int 0]) (C := RX2) (T := TX2) (N := 14) hx hb hts (fun _ h => List.mem_cons_of_mem _ (List.mem_append_left _ (List.mem_append_right _ h))) tyX2 tyX2_ok hown (hts _ (List.mem_of_getElem? (i := 4) rfl)) (hts _ (List.mem_of_getElem? (i := 6) rfl)) (hts _ (List.mem_of_getElem? (i := 7) rfl)) hK hP hD hS hA rfl dvX2 (by show 1 + i * 10 + 1 ≤ 101; omega) (by show 10 + i * 3302 + 14 ≤ 33030; omega) dX3_init_29 (fun q H hP hD hS => ?_)
      refine lv_dup hx hb dX3_init_32 rfl ?_
      refine ctIN (As := []) (rest := [.ref q, .int (nI i), .ref q1]) (wr := wH h0 q1 kE kI i f ux uy) hx hb hml hown hts (k_X2 l dC dI kI q H.size) gX3_init_X2_init_n17 qX2_init rfl ⟨(Nat.le_of_ble_eq_true rfl), (Nat.le_of_ble_eq_true rfl)⟩ ⟨rfl, rfl⟩ (hNW.use0 (i := 48) rfl) rfl (hts _ (List.mem_of_getElem? (i := 7) rfl)) (hts _ (List.mem_of_getElem? (i := 8) rfl)) hNW (hK.sub (tys' := [(kI, .int)]) [0] rfl) hP hD hS hA hl.1 rfl rfl (Nat.le_of_ble_eq_true rfl) dX3_init_33 ⟨by show 1 + i * 10 + 1 + 9 ≤ 101; omega, by show 10 + i * 3302 + 14 + 3288 ≤ 33030; omega⟩ (fun t H locs ht hvm hB hmix hS => ?_)
      obtain ⟨a, b, e0, hP1, hD1⟩ := hB
      rw [ht] at hP1
      subst e0
      obtain ⟨hP, hD⟩ := hmix _ hP1 hD1
      have hqk : (wH h0 q1 kE kI i f ux uy ++ EWc a b kI hE0)[(wH h0 q1 kE kI i f ux uy).length]? = (EWc a b kI hE0)[0]? := by rw [List.getElem?_append_right (Nat.le_refl _), Nat.sub_self]
      refine va_astq hx hb hK hP hD hS 1 1 (wH h0 q1 kE kI i f ux uy).length 2 rfl rfl (hqk.trans rfl) rfl (vp_inN i 10 (by omega) (by omega)) dX3_init_36 (fun H locs hP hD hS => ?_)
      rw [nq_tn _ (by omega)] at hP hD
      have hP : va_P (dC, dI) vwCl (wH h0 q1 kE kI (i + 1) (va_up f i (some (a 0))) (fun j => if j = i then a else ux j) (fun j => if j = i then b else uy j)) H := by rw [← wH_next h0 q1 kE kI i f _ ux uy a b]; exact hP
      have hD : va_D A (wH h0 q1 kE kI (i + 1) (va_up f i (some (a 0))) (fun j => if j = i then a else ux j) (fun j => if j = i then b else uy j)) := by rw [← wH_next h0 q1 kE kI i f _ ux uy a b]; exact hD
      refine lv_iinc (v := nI (i + 1)) (lv' := [(1, .int (nI (i + 1))), (0, .ref h0)]) hx hb dX3_init_37 hl (k := 0) rfl (nq_add i 1) (by decide) rfl (fun ls hl => ?_)
      refine lv_goto (tgt := 15) hx hb dX3_init_40 (by decide) ?_
      have ec : 1 + i * 10 + 1 + 9 = 1 + (i + 1) * 10 := by omega
      have es : 10 + i * 3302 + 14 + 3288 = 10 + (i + 1) * 3302 := by omega
      rw [ec, es]
      refine ih (i + 1) (by omega) H locs ls _ _ _ hP hD hS hl (fun j hj => ?_)
      show (if j = i then some (a 0) else f j) = some ((if j = i then a else ux j) 0)
      by_cases hji : j = i
      · rw [if_pos hji, if_pos hji]
      · rw [if_neg hji, if_neg hji]; exact hf j (by omega)
  refine lv_iconst (v := 0) hx hb dX3_init_13 (by decide) ?_
  refine lv_istore_n (lv' := [(1, .int (0 : Int32)), (0, .ref h0)]) hx hb dX3_init_14 rfl hl (by decide) rfl (fun ls hl => ?_)
  exact loop 10 0 rfl H locs ls _ _ _ hP hD hS hl (fun j hj => absurd hj (Nat.not_lt_zero _))
