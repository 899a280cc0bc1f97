/-! THE CLAIM OUT OF ONE WALK OF THE LAW'S BODY. Your part is whole_start (and what it stands on); all else here is the same for every law, but numbers. -/
def R_law : String := "LzwCodecLaw"
def lw_P (b : Addr) (xs : List Int32) (args : Array Value) (s : State) : Prop := args = #[.ref b] ∧ s.IntsAt b xs ∧ xs.length ≤ 3072 ∧ (Jvm.Cond.and given_1 narrow_1).before args s = true
/-- what a walk over the start with the record d0 says of its end, said of the start itself -/
theorem lw_closed {s t : State} {o : Outcome} {d0 : Drawn} {L : List Loc} {k n : Nat} (hd0 : s.drawn.sameBut d0 lw_cs) (hv : ∃ v, o = .returned v) (hW : (s.setDrawn d0).WarmedH t.vm) (hs : (s.setDrawn d0).sameButNew ({ t with vm := s.vm } : State) L k n) : State.butDraws s t lw_cs (fun t1 => Framed s o t1 L k n) := by
  have h2 : t.drawn = d0 := congrArg State.drawn hs.1
  refine ⟨⟨hv, hW, State.sameButNew.setDrawn hs s.drawn⟩, ?_, by decide⟩
  rw [h2]
  exact hd0
def lw_Q (_ : Array Value) (s : State) (o : Outcome) (t : State) : Prop := o = .returned (some (.int 1)) ∧ State.butDraws s t lw_cs (fun t1 => Framed s o t1 [] 601024 7293034)
def lw_Z (below : List Frame) (a : Array Value) (s : State) : State → Prop := fun t => ∃ o, t.status = .running ∧ Ended t below o ∧ lw_Q a s o t
/-- the law's own end, with 1 on the stack, nothing written that was there before, its room as the claim has it; d0: the record of draws at this point (at the entry s.drawn: begin with 'refine W.base ?_' and 'have hd0 := Drawn.sameBut.refl s.drawn lw_cs') -/
theorem lw_ret {p : Program} {l : Launch} {e : Env} {s : State} {m : MethodId} {below : List Frame} {meth : Method} {c : Code} {b : Nat} {d0 : Drawn} (hd0 : s.drawn.sameBut d0 lw_cs) (hx : p.tables.exec = Jvm.exec) (hb : c.code = code) (hr : meth.sig.returnType = ret) (hlocks : meth.locks = false) {pc : Nat} {H : Heap} {ls : Array Slot} (hdg : decode code pc = .ok (.ireturn, 1)) : W p l e room_1 (s.setDrawn d0) m #[Value.ref b] below meth c H [] 601024 7293034 (lw_Z below #[Value.ref b] s) (F0 m pc ls [.int 1]) := by
  intro T hT X
  obtain ⟨fs, hret, hrun, hended, hW, hframe⟩ := X.leave (v := some (.int 1)) (hlocks := hlocks) (fun h => by rw [hr] at h; cases h)
  have hmeth' : T.vm.method? m = some meth := X.method'
  refine ⟨T.setFrames fs, ?_, .returned (some (.int 1)), hrun, hended, rfl, lw_closed hd0 ⟨_, rfl⟩ hW hframe⟩
  jvm_step X.here [X.here.top, hx, hb, hdg, hmeth', hr, ret, narrow_b1]
  (try refine ⟨rfl, ?_⟩); (try refine ⟨rfl, ?_⟩)
  first | (intro acts; rw [hret _ acts rfl rfl rfl]) | rw [hret _ _ rfl rfl rfl]
  exact Steps.refl _
/-- what holds at the law's entry: the machine, the code, the tables' words (any of lw_tbl by 'hts w (by decide +kernel)'), the script of L ints xs at the cell b, what the Statement gives of the start (any of its parts by flat_of_before) -/
def lw_At (p : Program) (s : State) (m : MethodId) (meth : Method) (c : Code) (b L : Nat) (xs : Nat → Int32) : Prop :=
  p.tables.exec = Jvm.exec ∧ c.code = code ∧ meth.sig.returnType = ret ∧ c.maxLocals = 9 ∧ s.vm.findClass R_law = some m.cls ∧ (∀ w ∈ lw_tbl, w.before #[Value.ref b] s = true) ∧ va_X b L xs s s.heap ∧ b < s.heap.size ∧ meth.locks = false ∧ (Jvm.Cond.and given_1 narrow_1).before #[Value.ref b] s = true
-- ===== YOUR PART BEGINS =====
set_option maxHeartbeats 4000000 in
set_option maxRecDepth 100000 in
theorem whole_start {p : Program} {e : Env} {s : State} {m : MethodId} {below : List Frame} {meth : Method} {c : Code} (l : Launch) (hflags : l.flags = flags0) {b L : Nat} {xs : Nat → Int32} (hL : L ≤ 3072) (C0 : lw_At p s m meth c b L xs) : W p l e room_1 s m #[Value.ref b] below meth c s.heap [] 0 0 (lw_Z below #[Value.ref b] s) (entryFrame m ([Value.ref b] : List Value).toArray 9) := by
  obtain ⟨hx, hb, hr, hml, hown, hts, hX, hbl, hlocks, hgv⟩ := C0
  have hl0 : l.stackTraces = false := by unfold Launch.stackTraces; rw [hflags]; decide
  obtain ⟨K, hCE⟩ := s_CE hts hgv
  have hXN := s_XN hgv
  have hXE := s_XE hts
  have hNW := s_NW hts
  obtain ⟨dC, dI, hKc⟩ := s_cls hts
  obtain ⟨kI, aI, rI⟩ := s_arr (w1_at hts (i := 8) rfl) (fun _ h => nomatch h)
  obtain ⟨kB, aB, rB⟩ := s_arr (w1_at hts (i := 9) rfl) (fun _ h => nomatch h)
  obtain ⟨kZ, aZ, rZ⟩ := s_arr (w1_at hts (i := 10) rfl) (fun _ h => nomatch h)
  have hAO : va_AO "LzwCodec$Encoder" s := va_AO.of (w1_at hts (i := 7) rfl)
  have htw : ∀ w ∈ wsL_law, w.before #[Value.ref b] s = true := fun w h => hts w (wsL_law_in w h)
  have hK : va_K (dC, dI) vwCl [(kI, .int), (kB, .byte), (kZ, .boolean)] s := ⟨hKc, fun k q hq => by
    have hk : k < 3 := (List.getElem?_eq_some_iff.mp hq).1
    rcases (show k = 0 ∨ k = 1 ∨ k = 2 by omega) with rfl | rfl | rfl
    · cases hq; exact ⟨aI, rI⟩
    · cases hq; exact ⟨aB, rB⟩
    · cases hq; exact ⟨aZ, rZ⟩⟩
  have hown : s.vm.findClass RL = some m.cls := hown
  have hb : c.code = cL_law := hb
  obtain ⟨A0, hA0⟩ : ∃ A0 : Nat → Prop, A0 = (fun q : Nat => s.heap.size ≤ q) := ⟨_, rfl⟩
  rw [← hA0] at hCE
  have hA : ∀ q : Nat, s.heap.size ≤ q → A0 q := fun q h => by rw [hA0]; exact h
  have hAr : ∀ q : Nat, A0 q → s.heap.size ≤ q := fun q h => by rw [hA0] at h; exact h
  have hbA : ¬ A0 b := fun h => absurd (hAr b h) (Nat.not_le.mpr hbl)
  have hP : va_P (dC, dI) vwCl [] s.heap := fun k q h => by simp at h
  have hD : va_D A0 [] := ⟨fun i j p q h => by simp at h, fun k q h => by simp at h⟩
  have hS : va_S A0 s.heap s.heap [] := va_S.rf
  have hl := lv_entry ([.ref b]) (n := 9) (Nat.le_of_ble_eq_true rfl)
  rw [lg_entry_eq]
  generalize (lg_sl ([.ref b]) ++ List.replicate (9 - (lg_sl ([.ref b])).length) Slot.unset).toArray = ls at hl ⊢
  have hl : lv_has ls 9 [(0, .ref b)] := hl
  obtain ⟨fu, hf⟩ : ∃ fu : Nat, 20000 ≤ fu := ⟨20000, Nat.le_refl _⟩
  obtain ⟨z, hJ, hRE⟩ := s_begin fu hf
  refine va_new (ci := 7) (fs := [.null, .int 0, .int 0, .null, .null, .null, .int 0, .null, .null, .null, .null]) (C := RX7) (T := TX7) (N := 11) hx hb htw (fun w h => (ggL_law_X7_init w ((fun _ h => List.mem_cons_of_mem _ (List.mem_append_left _ (List.mem_append_left _ (List.mem_append_left _ (List.mem_append_left _ (List.mem_append_left _ (List.mem_append_left _ (List.mem_append_left _ (List.mem_append_right _ h))))))))) w h)).1) tyX7 tyX7_ok hown (htw _ (List.mem_append_left _ (List.mem_append_left _ (List.mem_append_left _ (List.mem_append_left _ (List.mem_append_left _ (List.mem_append_left _ (List.mem_append_left _ (List.mem_append_left _ (List.mem_append_left _ (List.mem_append_left _ (List.mem_append_left _ (List.mem_append_left _ (List.mem_append_left _ (List.mem_append_left _ (List.mem_of_getElem? (i := 0) rfl)))))))))))))))) (htw _ (List.mem_append_left _ (List.mem_append_left _ (List.mem_append_left _ (List.mem_append_left _ (List.mem_append_left _ (List.mem_append_left _ (List.mem_append_left _ (List.mem_append_left _ (List.mem_append_left _ (List.mem_append_left _ (List.mem_append_left _ (List.mem_append_left _ (List.mem_append_left _ (List.mem_append_left _ (List.mem_of_getElem? (i := 1) rfl)))))))))))))))) (htw _ (List.mem_append_left _ (List.mem_append_left _ (List.mem_append_left _ (List.mem_append_left _ (List.mem_append_left _ (List.mem_append_left _ (List.mem_append_left _ (List.mem_append_left _ (List.mem_append_left _ (List.mem_append_left _ (List.mem_append_left _ (List.mem_append_left _ (List.mem_append_left _ (List.mem_append_left _ (List.mem_of_getElem? (i := 2) rfl)))))))))))))))) hK hP hD hS hA rfl dvX7 (Nat.le_of_ble_eq_true rfl) (Nat.le_of_ble_eq_true rfl) dL_law_0 (fun q7 H hP hD hS => ?_)
  have hP : va_P (dC, dI) vwCl ([] ++ [(q7, .inr (7, [.null, .int 0, .int 0, .null, .null, .null, .int 0, .null, .null, .null, .null]))]) H := hP
  have hD : va_D A0 ([] ++ [(q7, .inr (7, [.null, .int 0, .int 0, .null, .null, .null, .int 0, .null, .null, .null, .null]))]) := hD
  refine W.widen (k := 1) (n := 11) (Nat.le_of_ble_eq_true rfl) (Nat.le_of_ble_eq_true rfl) ?_
  refine lv_dup hx hb dL_law_3 rfl ?_
  refine ctIo (As := []) (rest := [.ref q7]) (wr := []) hx hb hml hown htw hAO (k_X7 fu l dC dI kI q7 H.size z hJ) gL_law_X7_init qX7_init rfl ⟨(Nat.le_of_ble_eq_true rfl), (Nat.le_of_ble_eq_true rfl)⟩ ⟨rfl, rfl⟩ (htw _ (List.mem_append_left _ (List.mem_append_left _ (List.mem_append_left _ (List.mem_append_left _ (List.mem_append_left _ (List.mem_append_left _ (List.mem_append_left _ (List.mem_append_left _ (List.mem_append_left _ (List.mem_append_left _ (List.mem_append_left _ (List.mem_append_left _ (List.mem_append_left _ (List.mem_append_left _ (List.mem_of_getElem? (i := 7) rfl)))))))))))))))) rfl (htw _ (List.mem_append_left _ (List.mem_append_left _ (List.mem_append_left _ (List.mem_append_left _ (List.mem_append_left _ (List.mem_append_left _ (List.mem_append_left _ (List.mem_append_left _ (List.mem_append_left _ (List.mem_append_left _ (List.mem_append_left _ (List.mem_append_left _ (List.mem_append_left _ (List.mem_append_left _ (List.mem_of_getElem? (i := 2) rfl)))))))))))))))) (htw _ (List.mem_append_left _ (List.mem_append_left _ (List.mem_append_left _ (List.mem_append_left _ (List.mem_append_left _ (List.mem_append_left _ (List.mem_append_left _ (List.mem_append_left _ (List.mem_append_left _ (List.mem_append_left _ (List.mem_append_left _ (List.mem_append_left _ (List.mem_append_left _ (List.mem_append_left _ (List.mem_of_getElem? (i := 8) rfl)))))))))))))))) hNW (hK.sub (tys' := [(kI, .int)]) [0] rfl) hP hD hS hA hl.1 rfl rfl (Nat.le_of_ble_eq_true rfl) dL_law_4 ⟨(Nat.le_of_ble_eq_true rfl), (Nat.le_of_ble_eq_true rfl)⟩ (fun t H locs ht hvm hB hmix hS => ?_)
  obtain ⟨ca, a, b2, oa, ob, ra, sa, ha, ux, uy, kE, tx, e0, hK1, hP1, hD1⟩ := hB
  rw [ht] at hP1
  have hK1 : va_K (dC, dI) vwCl [(kE, .object "LzwCodec$Encoder")] s := va_K.moved hvm.symm hK1
  subst e0
  obtain ⟨hP, hD⟩ := hmix _ hP1 hD1
  have hP : va_P (dC, dI) vwCl (([COc ca a oa ra sa ha 0 (-1) 0, AWc (ca 1) kI 800 zI, AWc (ca 2) kI 400 zI, EWc a b2 kI z, OOc oa ob (mkO (mkD zI zI zI zI zI 0 0 0) (-1) zI 0), AWc (oa 1) kI 400 (o_symbols (mkO (mkD zI zI zI zI zI 0 0 0) (-1) zI 0)), DWc ob kI (o_d (mkO (mkD zI zI zI zI zI 0 0 0) (-1) zI 0)), TWc (ca 3) tx (mkT 0 0 0 0), RWc ra kI (mkR 0 0 0 0 zI 0), SWc sa kI (mkS zI 0), HWc ha ux uy kE kI (mkH (fun _ => hE0) 0 0 0)] : List va_W).flatten) H := hP
  have hD : va_D A0 (([COc ca a oa ra sa ha 0 (-1) 0, AWc (ca 1) kI 800 zI, AWc (ca 2) kI 400 zI, EWc a b2 kI z, OOc oa ob (mkO (mkD zI zI zI zI zI 0 0 0) (-1) zI 0), AWc (oa 1) kI 400 (o_symbols (mkO (mkD zI zI zI zI zI 0 0 0) (-1) zI 0)), DWc ob kI (o_d (mkO (mkD zI zI zI zI zI 0 0 0) (-1) zI 0)), TWc (ca 3) tx (mkT 0 0 0 0), RWc ra kI (mkR 0 0 0 0 zI 0), SWc sa kI (mkS zI 0), HWc ha ux uy kE kI (mkH (fun _ => hE0) 0 0 0)] : List va_W).flatten) := hD
  refine W.widen (k := 129) (n := 40081) (Nat.le_of_ble_eq_true rfl) (Nat.le_of_ble_eq_true rfl) ?_
  refine lv_astore_n (lv' := [(1, .ref (ca 0)), (0, .ref b)]) hx hb dL_law_7 rfl hl (by decide) rfl (fun ls hl => ?_)
  refine va_new (ci := 8) (fs := [.null, .int 0, .int 0, .int 0, .null, .null, .null, .null, .null, .int 0, .null, .null, .int 0, .int 0, .null, .int 0, .null, .int 0, .int 0, .int 0, .int 0, .long 0, .int 0, .int 0, .int 0, .null, .int 0]) (C := RX8) (T := TX8) (N := 27) hx hb htw (fun w h => (ggL_law_X8_init w ((fun _ h => List.mem_cons_of_mem _ (List.mem_append_right _ h)) w h)).1) tyX8 tyX8_ok hown (htw _ (List.mem_append_left _ (List.mem_append_left _ (List.mem_append_left _ (List.mem_append_left _ (List.mem_append_left _ (List.mem_append_left _ (List.mem_append_left _ (List.mem_append_left _ (List.mem_append_left _ (List.mem_append_left _ (List.mem_append_left _ (List.mem_append_left _ (List.mem_append_left _ (List.mem_append_left _ (List.mem_of_getElem? (i := 3) rfl)))))))))))))))) (htw _ (List.mem_append_left _ (List.mem_append_left _ (List.mem_append_left _ (List.mem_append_left _ (List.mem_append_left _ (List.mem_append_left _ (List.mem_append_left _ (List.mem_append_left _ (List.mem_append_left _ (List.mem_append_left _ (List.mem_append_left _ (List.mem_append_left _ (List.mem_append_left _ (List.mem_append_left _ (List.mem_of_getElem? (i := 4) rfl)))))))))))))))) (htw _ (List.mem_append_left _ (List.mem_append_left _ (List.mem_append_left _ (List.mem_append_left _ (List.mem_append_left _ (List.mem_append_left _ (List.mem_append_left _ (List.mem_append_left _ (List.mem_append_left _ (List.mem_append_left _ (List.mem_append_left _ (List.mem_append_left _ (List.mem_append_left _ (List.mem_append_left _ (List.mem_of_getElem? (i := 5) rfl)))))))))))))))) hK hP hD hS hA rfl dvX8 (Nat.le_of_ble_eq_true rfl) (Nat.le_of_ble_eq_true rfl) dL_law_8 (fun q8 H hP hD hS => ?_)
  have hP : va_P (dC, dI) vwCl (([COc ca a oa ra sa ha 0 (-1) 0, AWc (ca 1) kI 800 zI, AWc (ca 2) kI 400 zI, EWc a b2 kI z, OOc oa ob (mkO (mkD zI zI zI zI zI 0 0 0) (-1) zI 0), AWc (oa 1) kI 400 (o_symbols (mkO (mkD zI zI zI zI zI 0 0 0) (-1) zI 0)), DWc ob kI (o_d (mkO (mkD zI zI zI zI zI 0 0 0) (-1) zI 0)), TWc (ca 3) tx (mkT 0 0 0 0), RWc ra kI (mkR 0 0 0 0 zI 0), SWc sa kI (mkS zI 0), HWc ha ux uy kE kI (mkH (fun _ => hE0) 0 0 0)] : List va_W).flatten ++ [(q8, .inr (8, [.null, .int 0, .int 0, .int 0, .null, .null, .null, .null, .null, .int 0, .null, .null, .int 0, .int 0, .null, .int 0, .null, .int 0, .int 0, .int 0, .int 0, .long 0, .int 0, .int 0, .int 0, .null, .int 0]))]) H := hP
  have hD : va_D A0 (([COc ca a oa ra sa ha 0 (-1) 0, AWc (ca 1) kI 800 zI, AWc (ca 2) kI 400 zI, EWc a b2 kI z, OOc oa ob (mkO (mkD zI zI zI zI zI 0 0 0) (-1) zI 0), AWc (oa 1) kI 400 (o_symbols (mkO (mkD zI zI zI zI zI 0 0 0) (-1) zI 0)), DWc ob kI (o_d (mkO (mkD zI zI zI zI zI 0 0 0) (-1) zI 0)), TWc (ca 3) tx (mkT 0 0 0 0), RWc ra kI (mkR 0 0 0 0 zI 0), SWc sa kI (mkS zI 0), HWc ha ux uy kE kI (mkH (fun _ => hE0) 0 0 0)] : List va_W).flatten ++ [(q8, .inr (8, [.null, .int 0, .int 0, .int 0, .null, .null, .null, .null, .null, .int 0, .null, .null, .int 0, .int 0, .null, .int 0, .null, .int 0, .int 0, .int 0, .int 0, .long 0, .int 0, .int 0, .int 0, .null, .int 0]))]) := hD
  refine W.widen (k := 130) (n := 40108) (Nat.le_of_ble_eq_true rfl) (Nat.le_of_ble_eq_true rfl) ?_
  refine lv_dup hx hb dL_law_11 rfl ?_
  refine ctI (As := []) (rest := [.ref q8]) (wr := ([COc ca a oa ra sa ha 0 (-1) 0, AWc (ca 1) kI 800 zI, AWc (ca 2) kI 400 zI, EWc a b2 kI z, OOc oa ob (mkO (mkD zI zI zI zI zI 0 0 0) (-1) zI 0), AWc (oa 1) kI 400 (o_symbols (mkO (mkD zI zI zI zI zI 0 0 0) (-1) zI 0)), DWc ob kI (o_d (mkO (mkD zI zI zI zI zI 0 0 0) (-1) zI 0)), TWc (ca 3) tx (mkT 0 0 0 0), RWc ra kI (mkR 0 0 0 0 zI 0), SWc sa kI (mkS zI 0), HWc ha ux uy kE kI (mkH (fun _ => hE0) 0 0 0)] : List va_W).flatten) hx hb hml hown htw (k_X8 l dC dI kI kB kZ q8 H.size) gL_law_X8_init qX8_init rfl ⟨(Nat.le_of_ble_eq_true rfl), (Nat.le_of_ble_eq_true rfl)⟩ ⟨rfl, rfl⟩ (htw _ (List.mem_append_left _ (List.mem_append_left _ (List.mem_append_left _ (List.mem_append_left _ (List.mem_append_left _ (List.mem_append_left _ (List.mem_append_left _ (List.mem_append_left _ (List.mem_append_left _ (List.mem_append_left _ (List.mem_append_left _ (List.mem_append_left _ (List.mem_append_left _ (List.mem_append_left _ (List.mem_of_getElem? (i := 123) rfl)))))))))))))))) rfl (htw _ (List.mem_append_left _ (List.mem_append_left _ (List.mem_append_left _ (List.mem_append_left _ (List.mem_append_left _ (List.mem_append_left _ (List.mem_append_left _ (List.mem_append_left _ (List.mem_append_left _ (List.mem_append_left _ (List.mem_append_left _ (List.mem_append_left _ (List.mem_append_left _ (List.mem_append_left _ (List.mem_of_getElem? (i := 5) rfl)))))))))))))))) (htw _ (List.mem_append_left _ (List.mem_append_left _ (List.mem_append_left _ (List.mem_append_left _ (List.mem_append_left _ (List.mem_append_left _ (List.mem_append_left _ (List.mem_append_left _ (List.mem_append_left _ (List.mem_append_left _ (List.mem_append_left _ (List.mem_append_left _ (List.mem_append_left _ (List.mem_append_left _ (List.mem_of_getElem? (i := 124) rfl)))))))))))))))) hNW hK hP hD hS hA hl.1 rfl rfl (Nat.le_of_ble_eq_true rfl) dL_law_12 ⟨(Nat.le_of_ble_eq_true rfl), (Nat.le_of_ble_eq_true rfl)⟩ (fun t H locs ht hvm hB hmix hS => ?_)
  obtain ⟨ma, e0, hP1, hD1⟩ := hB
  rw [ht] at hP1
  subst e0
  obtain ⟨hP, hD⟩ := hmix _ hP1 hD1
  have hP : va_P (dC, dI) vwCl (([COc ca a oa ra sa ha 0 (-1) 0, AWc (ca 1) kI 800 zI, AWc (ca 2) kI 400 zI, EWc a b2 kI z, OOc oa ob (mkO (mkD zI zI zI zI zI 0 0 0) (-1) zI 0), AWc (oa 1) kI 400 (o_symbols (mkO (mkD zI zI zI zI zI 0 0 0) (-1) zI 0)), DWc ob kI (o_d (mkO (mkD zI zI zI zI zI 0 0 0) (-1) zI 0)), TWc (ca 3) tx (mkT 0 0 0 0), RWc ra kI (mkR 0 0 0 0 zI 0), SWc sa kI (mkS zI 0), HWc ha ux uy kE kI (mkH (fun _ => hE0) 0 0 0)] : List va_W).flatten ++ MWc ma kI kB kZ zI 0 (-1) 0 (upd (upd (upd (upd (upd zI 0 4) 1 4) 2 1) 3 90) 4 5) zI zI zI zI 0 zI zI 0 0 zI 0 zI 0 0 0 0 0 0 0 0 zI 0) H := hP
  have hD : va_D A0 (([COc ca a oa ra sa ha 0 (-1) 0, AWc (ca 1) kI 800 zI, AWc (ca 2) kI 400 zI, EWc a b2 kI z, OOc oa ob (mkO (mkD zI zI zI zI zI 0 0 0) (-1) zI 0), AWc (oa 1) kI 400 (o_symbols (mkO (mkD zI zI zI zI zI 0 0 0) (-1) zI 0)), DWc ob kI (o_d (mkO (mkD zI zI zI zI zI 0 0 0) (-1) zI 0)), TWc (ca 3) tx (mkT 0 0 0 0), RWc ra kI (mkR 0 0 0 0 zI 0), SWc sa kI (mkS zI 0), HWc ha ux uy kE kI (mkH (fun _ => hE0) 0 0 0)] : List va_W).flatten ++ MWc ma kI kB kZ zI 0 (-1) 0 (upd (upd (upd (upd (upd zI 0 4) 1 4) 2 1) 3 90) 4 5) zI zI zI zI 0 zI zI 0 0 zI 0 zI 0 0 0 0 0 0 0 0 zI 0) := hD
  refine W.widen (k := 141) (n := 63434) (Nat.le_of_ble_eq_true rfl) (Nat.le_of_ble_eq_true rfl) ?_
  refine lv_astore_n (lv' := [(2, .ref (ma 0)), (1, .ref (ca 0)), (0, .ref b)]) hx hb dL_law_15 rfl hl (by decide) rfl (fun ls hl => ?_)
  refine lv_iconst (v := 1) hx hb dL_law_16 (by decide) ?_
  refine va_newa (atype := .long) (ty := .long) (N' := 1) (a0 := (1, .inr (.inl (fun _ => 0)))) hx hb (w1_at hts (i := 11) rfl) rfl hK hP hD hS hA (fun _ => rfl) (by decide) (by decide) (Nat.le_of_ble_eq_true rfl) (Nat.le_of_ble_eq_true rfl) (Nat.le_of_ble_eq_true rfl) dL_law_17 (fun q kL H hK2 hP hD hS => ?_)
  refine W.widen (k := 142) (n := 63435) (Nat.le_of_ble_eq_true rfl) (Nat.le_of_ble_eq_true rfl) ?_
  refine lv_astore_n (lv' := [(3, .ref q), (2, .ref (ma 0)), (1, .ref (ca 0)), (0, .ref b)]) hx hb dL_law_19 rfl hl (by decide) rfl (fun ls hl => ?_)
  refine lv_iconst (v := 0) hx hb dL_law_20 (by decide) ?_
  refine lv_istore (lv' := [(4, .int (0 : Int32)), (3, .ref q), (2, .ref (ma 0)), (1, .ref (ca 0)), (0, .ref b)]) hx hb dL_law_21 hl (by decide) rfl (fun ls hl => ?_)
  have hP : va_P (dC, dI) vwCl (LW ⟨ca, a, b2, oa, ob, ra, sa, ha, ux, uy, kI, kE, kB, kZ, kL, ma, q⟩ ⟨0, -1, 0, zI, zI, z, mkO (mkD zI zI zI zI zI 0 0 0) (-1) zI 0, mkT 0 0 0 0, mkR 0 0 0 0 zI 0, mkS zI 0, mkH (fun _ => hE0) 0 0 0, tx⟩ ⟨zI, 0, -1, 0, upd (upd (upd (upd (upd zI 0 4) 1 4) 2 1) 3 90) 4 5, zI, zI, zI, zI, 0, zI, zI, 0, 0, zI, 0, zI, 0, 0, 0, 0, 0, 0, 0, 0, zI, 0⟩ (fun _ => 0)) H := by have h9 := hP; rw [List.append_assoc] at h9; exact h9
  have hD : va_D A0 (LW ⟨ca, a, b2, oa, ob, ra, sa, ha, ux, uy, kI, kE, kB, kZ, kL, ma, q⟩ ⟨0, -1, 0, zI, zI, z, mkO (mkD zI zI zI zI zI 0 0 0) (-1) zI 0, mkT 0 0 0 0, mkR 0 0 0 0 zI 0, mkS zI 0, mkH (fun _ => hE0) 0 0 0, tx⟩ ⟨zI, 0, -1, 0, upd (upd (upd (upd (upd zI 0 4) 1 4) 2 1) 3 90) 4 5, zI, zI, zI, zI, 0, zI, zI, 0, 0, zI, 0, zI, 0, 0, 0, 0, 0, 0, 0, 0, zI, 0⟩ (fun _ => 0)) := by have h9 := hD; rw [List.append_assoc] at h9; exact h9
  have C : LC p l s m #[Value.ref b] c A0 K dC dI ⟨ca, a, b2, oa, ob, ra, sa, ha, ux, uy, kI, kE, kB, kZ, kL, ma, q⟩ b L xs := ⟨hx, hb, hml, hown, htw, hl0, hNW, hCE, hXN, hXE, (hK2.app hK1).sub [0, 4, 3, 1, 2] rfl, hA, hX, hbl, hbA⟩
  exact lc_loop C hf hL (fun H locs ls hS => lv_iconst (v := 1) hx hb dL_law_2324 (by decide) (va_forget (fun q h => hAr _ (hS.2.2 q h)) (W.base (lw_ret (Drawn.sameBut.refl s.drawn lw_cs) hx hb hr hlocks dL_law_2325)))) 512 0 (by omega) (by omega) _ _ _ H _ ls 142 63435 (by decide) (by decide) (s_REL hRE tx) hP hD hS (lv_sub hl [4, 3, 2, 1, 0] rfl)
-- ===== YOUR PART ENDS =====
set_option maxHeartbeats 4000000 in
theorem lw_walk (l : Launch) (hflags : l.flags = flags0) (b : Addr) (xs : List Int32) : MetFree l x (headSpec (Jvm.Cond.code x code maxLocals ret :: tables_1) room_1) (lw_P b xs) (fun _ _ _ _ _ => True) lw_Q := by
  refine MetFree.of_bodyS (code := code) (maxLocals := maxLocals) (ret := ret) (by decide) ?_ ?_
  · intro args s m h hn
    obtain ⟨meth, c, h1, h2, h3, h4, h5, h6, -, -⟩ := Cond.code_spec hn (atoms_spec (ws := Jvm.Cond.code x code maxLocals ret :: tables_1) h _ List.mem_cons_self)
    exact ⟨meth, c, h1, h2, h3, h4, h5, h6⟩
  · intro p e s m args below meth c s₁ B hml0 hP _
    obtain ⟨rfl, hx, hbd, hgv⟩ := hP
    obtain ⟨scr, harrAt, hlist, hof, hsmall⟩ := hx
    obtain ⟨hcb, hkn, -, -⟩ := State.arrayAt?_spec harrAt
    have hown : s.vm.findClass R_law = some m.cls := findClass_of_methodNamed B.named
    have hts0 : ∀ c ∈ (Jvm.Cond.code x code maxLocals ret :: tables_1), c.before #[Value.ref b] s = true := atoms_spec (ws := Jvm.Cond.code x code maxLocals ret :: tables_1) B.pre
    have hts : ∀ w ∈ lw_tbl, w.before #[Value.ref b] s = true := k2_hts_sels lw_privs (fun w hw => hts0 w (List.mem_cons_of_mem _ hw)) lw_privs_ok
    have hml : c.maxLocals = 9 := B.maxLocals_eq (hts0 _ List.mem_cons_self)
    have X₀ : Stand p l e room_1 s m #[Value.ref b] below meth c s₁ [] 0 0 := Stand.of_body B
    have hh0 : s₁.heap = s.heap := by rw [B.state]; rfl
    have hsz : scr.slots.size = xs.length := by rw [← Array.length_toList, hlist, List.length_map]
    have hval : ∀ j : Nat, j < xs.length → scr.slots[j]? = some (.int (xs.getD j 0)) := fun j hj => by
      rw [← Array.getElem?_toList, hlist]
      simp [hj]
    have hbl : b < s.heap.size := (Array.getElem?_eq_some_iff.mp hcb).1
    have hX : va_X b xs.length (fun j => xs.getD j 0) s s.heap := ⟨scr, hcb, hof, hkn, hsz, hval⟩
    have K : W p l e room_1 s m #[Value.ref b] below meth c s₁.heap [] 0 0 (lw_Z below #[Value.ref b] s) (entryFrame m ([Value.ref b] : List Value).toArray 9) := by
      rw [hh0]
      exact whole_start l hflags hbd ⟨B.exec, B.bytes, B.returns, hml, hown, hts, hX, hbl, B.notSynchronized, hgv⟩
    obtain ⟨t, a1, o, b1, b2, b3⟩ := K s₁ rfl X₀
    exact ⟨t, o, a1, b1, b2, b3⟩
theorem lw_pre_spec {args : Array Value} {s : State} (h : (Jvm.Cond.and given_1 narrow_1).before args s = true) (hr : rest_1_c.before args s = true) : ∃ (b : Addr) (xs : List Int32), lw_P b xs args s := by
  have hs := flat_of_before _ h
  have hq := flat_of_before _ hr
  have hc : (Cond.count 1).before args s = true := hs _ (by decide +kernel)
  have harr : (Cond.arrayOf (.arg 0) .int).before args s = true := hs _ (by decide +kernel)
  have hle : (Cond.le (.length (.arg 0)) (.int 3072)).before args s = true := hs _ (by decide +kernel)
  have hlen : (Cond.isInt (.length (.arg 0))).before args s = true := hq _ (by decide +kernel)
  have hall : (Cond.all (.arg 0) (.isInt (.elem (.arg 0) (.index 0)))).before args s = true := hq _ (by decide +kernel)
  obtain ⟨b, xs, hb, hx⟩ := State.ints_of_pre rfl harr hlen hall
  have hsm : xs.length < 2 ^ 31 := hx.choose_spec.2.2.2
  have hev : (Term.length (.arg 0)).eval args s none [] s = some (.int xs.length.toInt32) := hx.length_eval hb
  have hv := Cond.le_ints hev (show (Term.int 3072).eval args s none [] s = some (.int 3072) from rfl)
  have hd : xs.length.toInt32 ≤ 3072 := by
    simpa [Cond.before, Cond.holds, hv] using hle
  have hN : xs.length ≤ 3072 := (Int32.ofNat_le_ofNat hsm (by decide)).mp (show Int32.ofNat xs.length ≤ Int32.ofNat 3072 from hd)
  exact ⟨b, xs, Cond.one_arg hc (show args[0]? = some (.ref b) from hb), hx, hN, h⟩
theorem lw_comes (l : Launch) (hflags : l.flags = flags0) : Comes l x (Jvm.Cond.code x code maxLocals ret :: tables_1) room_1 (fun tb e args s => Calls_1 tb e args s ∧ rest_1 tb e args s ∧ Pre_1 tb e args s)
    (fun _ _ args s o t => lw_Q args s o t) := by
  intro p e ha hc hk s m args below hf hfit hheap happ hpre
  obtain ⟨b, xs, hP⟩ := lw_pre_spec hpre.2.2 hpre.2.1
  obtain ⟨k, o, h1, h2, h3, hQ⟩ := lw_walk l hflags b xs p e ha hc hk s m args below hf ((Spec.applies_iff_loose hf).mp happ).1 hP trivial
  exact ⟨k, o, h1, h2, h3, hQ⟩
theorem lw_frame {s t : State} {o : Outcome} {args : Array Value} (h : State.butDraws s t lw_cs (fun t1 => Framed s o t1 [] 601024 7293034)) :
    State.butDraws s t [Jvm.Choice.named "NaN.bits"] (fun t1 => Framed s o t1 (fieldLocs frame_1_writes args s ++ arrayLocs frame_1_arrays args s ++ staticLocs frame_1_statics s) 601024 7293034) := h
theorem lw_limb (L : Cond) (hL : ∀ (args : Array Value) (s t : State), L.after args s (.returned (some (.int 1))) t = true) :
    ArmFor flags0 classFile x code maxLocals ret World_1 tables_1 room_1 Calls_1 rest_1 Pre_1
      (fun tb e a s o t => postC L tb e a s o t ∧ State.butDraws s t [Jvm.Choice.named "NaN.bits"] (fun t1 => Framed s o t1 (fieldLocs frame_1_writes a s ++ arrayLocs frame_1_arrays a s ++ staticLocs frame_1_statics s) 601024 7293034)) := by
  intro l hflags _ _ p e ha hc hk s m args below hf hfit hheap happ hpre
  obtain ⟨k, o, h1, h2, h3, rfl, hF⟩ := lw_comes l hflags p e ha hc hk s m args below hf hfit hheap happ hpre
  exact ⟨k, _, h1, h2, h3, hL args s _, lw_frame hF⟩
theorem i_vc : Claimed_1_1 ∧ Claimed_1_2 := ⟨lw_limb limb_1_1 (fun args s t => by simp [limb_1_1, Cond.after, Cond.holds, Cond.value]), lw_limb limb_1_2 (fun args s t => Cond.after_iff.mpr (by
  first | (rw [show limb_1_2 = Cond.eq .result (.int 1) from rfl, Cond.eq_ints (x := 1) (y := 1) rfl rfl]; simp; done) | (simp [limb_1_2, Cond.value, Term.eval]; done)))⟩
