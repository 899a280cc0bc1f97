/-! the law's helpers: bodies with a table that answer always -/
def exL : List String := ["java/lang/IllegalStateException", "java/lang/IllegalArgumentException", "java/util/NoSuchElementException", "java/lang/IndexOutOfBoundsException"]
def XN (U : State) : Prop := ∀ E ∈ exL, ∀ T ∈ exL, E ≠ T → va_Nc E T U
theorem XN.moved {u U : State} (hvm : u.vm.Alike U.vm) (h : XN u) : XN U := fun E hE T hT hne => va_Nc.moved hvm (h E hE T hT hne)
def XE (U : State) : Prop := ∀ E ∈ exL, va_Nw (.castable E E) U
theorem XE.same {u U : State} (hvm : u.vm = U.vm) (h : XE u) : XE U := fun E hE => va_Nw.same rfl hvm (h E hE)
theorem XE.warm {s U : State} (hW : s.WarmedH U.vm) (h : XE s) : XE U := fun E hE => va_Nw.warmC hW (h E hE)
def RWl (K : KT) (dC : Nat → ClassId) (dI : Nat → Nat → Nat) (sz : Nat) (ws : va_W) (tys : List (ClassId × FieldType)) (U : State) : Prop := RWc' K dC dI sz ws tys U ∧ XN U ∧ XE U
theorem RWl.blind {K : KT} {dC : Nat → ClassId} {dI : Nat → Nat → Nat} {sz : Nat} {ws : va_W} {tys : List (ClassId × FieldType)} {As : List Value} : FrameBlind (va_Pc As (RWl K dC dI sz ws tys)) := fun a U g mk h => by
  obtain ⟨h1, h2, h3, h4⟩ := h
  exact ⟨h1, (RWc'.blind (As := As) a U g mk ⟨h1, h2⟩).2, XN.moved (u := U) (Vm.Alike.refl U.vm) h3, XE.same (u := U) rfl h4⟩
section LB
variable {dC : Nat → ClassId} {dI : Nat → Nat → Nat} {l : Launch} {K : KT}
theorem l_ofWH {y : MethodName} {ws ws' : List Cond} {rm : Room} {Pc : Array Value → State → Prop} {Qc : Array Value → State → Outcome → State → Prop} {mc ms : Nat} {free : Addr → Prop} {cc : ByteArray} {maxL : Nat} {ret : Option FieldType} {hh : List (Nat × Nat × Nat × Nat)}
    (hy : plainName y.cls = true) (hw : ws = Cond.codeWith y cc maxL ret hh :: ws')
    (body : ∀ p e s m args below meth c s₁, BodyLoose p l y (headSpec ws rm) cc maxL ret e s m args below meth c s₁ → c.maxLocals = maxL → Pc args s →
      W p l e (headSpec ws rm).room s m args below meth c s.heap [] 0 0 (MQ below Qc args s mc ms free) (entryFrame m args maxL)) : Met l y ws rm Pc Qc mc ms free := by
  refine MetFree.of_bodyS (code := cc) (maxLocals := maxL) (ret := ret) hy ?_ ?_
  · intro args s m h hn
    obtain ⟨m9, meth, c, hn9, h1, h2, h3, h4, -, h5, h6, -⟩ := Cond.codeWith_spec (atoms_spec (ws := ws) h _ (by rw [hw]; exact List.mem_cons_self))
    cases hn.symm.trans hn9
    exact ⟨meth, c, h1, h2, h3, h4, h5, h6⟩
  · intro p e s m args below meth c s₁ B hml hP _
    have hh0 : s₁.heap = s.heap := by rw [B.state]; rfl
    obtain ⟨t, a1, o, b1, b2, b3⟩ := body p e s m args below meth c s₁ B hml hP s₁ hh0 (Stand.of_body B)
    exact ⟨t, o, a1, b1, b2, ⟨b3.1, b3.2⟩⟩
theorem l_start {y : MethodName} {ws0 ws' : List Cond} {rm : Room} {Qc : (Nat → Prop) → Array Value → State → Outcome → State → Prop} {cc : ByteArray} {maxL mc ms sz : Nat} {ret : Option FieldType} {As : List Value} {ws : va_W} {tys : List (ClassId × FieldType)} {hh : List (Nat × Nat × Nat × Nat)}
    (hy : plainName y.cls = true) (hw : ws0 = Cond.codeWith y cc maxL ret hh :: ws') (hn : (lg_sl As).length ≤ maxL)
    (body : ∀ (p : Program) (e : Env) (s : State) (m : MethodId) (args : Array Value) (below : List Frame) (meth : Method) (c : Code), p.tables.exec = Jvm.exec → c.code = cc → meth.sig.returnType = ret → c.maxLocals = maxL → s.vm.findClass y.cls = some m.cls → (∀ w ∈ ws0, w.before args s = true) → meth.locks = false → NW s → va_K (dC, dI) vwCl tys s → c.exceptionTable.toList = tableOf hh → XN s → XE s →
      ∀ (A : Nat → Prop), (∀ q : Nat, s.heap.size ≤ q → A q) → CE K A s s.heap → ∀ (H : Heap) (locs : List Loc) (ls : Array Slot), va_P (dC, dI) vwCl ws H → va_D A ws → va_S A s.heap H locs → lv_has ls maxL (lv_args 0 As) → W p l e rm s m args below meth c H locs 0 0 (MQ below (Qc A) args s mc ms A) (F0 m 0 ls [])) :
    Met l y ws0 rm (va_Pc As (RWl K dC dI sz ws tys)) (Qc (va_A ws sz)) mc ms (va_A ws sz) := by
  refine l_ofWH (cc := cc) (maxL := maxL) (ret := ret) (hh := hh) hy hw ?_
  intro p e s m args below meth c s₁ B hml hv
  obtain ⟨rfl, ⟨⟨hsz, hP, hK, hD, hNW⟩, hCE⟩, hXN, hXE⟩ := hv
  have hl := lv_entry As (n := maxL) hn
  rw [lg_entry_eq]
  subst hsz
  have hts := atoms_spec (ws := ws0) B.pre
  have hT := vx_table (x := y) B (hts _ (by rw [hw]; exact List.mem_cons_self))
  exact body p e s m _ below meth c B.exec B.bytes B.returns hml (findClass_of_methodNamed B.named) hts B.notSynchronized hNW hK hT hXN hXE _ (fun q h => Or.inr h) hCE s.heap [] _ hP hD.self va_S.rf hl
variable {p : Program} {e : Env} {R : Room} {s : State} {m : MethodId} {args : Array Value} {below : List Frame} {meth : Method} {c : Code} {H : Heap} {locs : List Loc} {cells slots : Nat} {Q : State → Prop}
variable {cc : ByteArray} {pc : Nat} {ls : Array Slot} {rest st0 : List Value} {A0 : Nat → Prop} {H0 : Heap} {tys : List (ClassId × FieldType)}
theorem l_ki {z : Int32 ⊕ String} {wc wr wc' : va_W} {mc ms : Nat} {a : Array Value} (hr : vx_Run p l e R s m args below meth c H locs cells slots mc ms (F0 m pc ls st0) rest (xwQi dC dI (va_A wc H.size) wc' z a) (xwX dC dI (va_A wc H.size) wc' z) (va_A wc H.size)) (hP : va_P (dC, dI) vwCl (wc ++ wr) H) (hD : va_D A0 (wc ++ wr)) (hS : va_S A0 H0 H locs) (hF : ∀ q, va_A wc H.size q → A0 q)
    (kx : ∀ (E : String) (ce : Cell) (q9 : Addr) (H1 : Heap) (locs1 : List Loc), z = .inr E → va_P (dC, dI) vwCl (wc' ++ wr) H1 → va_D A0 (wc' ++ wr) → va_S A0 H0 H1 locs1 → H1[q9]? = some ce → ce.vm = .none → s.vm.findClass E = some ce.cls → vx_W p l e R s m args below meth c H1 locs1 (cells + mc) (slots + ms) Q (F0 m pc ls rest) q9)
    (kk : ∀ (r : Int32) (H1 : Heap) (locs1 : List Loc), z = .inl r → va_P (dC, dI) vwCl (wc' ++ wr) H1 → va_D A0 (wc' ++ wr) → va_S A0 H0 H1 locs1 → W p l e R s m args below meth c H1 locs1 (cells + mc) (slots + ms) Q (F0 m (pc + 3) ls (.int r :: rest))) : W p l e R s m args below meth c H locs cells slots Q (F0 m pc ls st0) := by
  refine vx_calli hr hS (fun q _ h => hF q h) hF (fun q _ h => hF q h) (fun E ce q9 u t H1 locs1 ht hvm hpx hB hz hk hS1 h1 h2 h3 => ?_) (fun r u t H1 locs1 ht hvm hw hB hz hk hS1 => ?_)
  · obtain ⟨hzE, hP1, hD1⟩ := hB
    rw [ht] at hP1
    obtain ⟨g1, g2⟩ := fl_mix (List.Perm.refl _) hP hD hF hk hP1 hD1
    exact kx E ce q9 H1 locs1 hzE g1 g2 hS1 h1 h2 h3
  · obtain ⟨hP1, hD1⟩ := hB
    rw [ht] at hP1
    obtain ⟨g1, g2⟩ := fl_mix (List.Perm.refl _) hP hD hF hk hP1 hD1
    exact kk r H1 locs1 hw g1 g2 hS1
theorem l_kv {z : Unit ⊕ String} {wc wr wc' : va_W} {mc ms : Nat} {a : Array Value} (hr : vx_Run p l e R s m args below meth c H locs cells slots mc ms (F0 m pc ls st0) rest (xwQv dC dI (va_A wc H.size) wc' z a) (xwX dC dI (va_A wc H.size) wc' z) (va_A wc H.size)) (hP : va_P (dC, dI) vwCl (wc ++ wr) H) (hD : va_D A0 (wc ++ wr)) (hS : va_S A0 H0 H locs) (hF : ∀ q, va_A wc H.size q → A0 q)
    (kx : ∀ (E : String) (ce : Cell) (q9 : Addr) (H1 : Heap) (locs1 : List Loc), z = .inr E → va_P (dC, dI) vwCl (wc' ++ wr) H1 → va_D A0 (wc' ++ wr) → va_S A0 H0 H1 locs1 → H1[q9]? = some ce → ce.vm = .none → s.vm.findClass E = some ce.cls → vx_W p l e R s m args below meth c H1 locs1 (cells + mc) (slots + ms) Q (F0 m pc ls rest) q9)
    (kk : ∀ (H1 : Heap) (locs1 : List Loc), z = .inl () → va_P (dC, dI) vwCl (wc' ++ wr) H1 → va_D A0 (wc' ++ wr) → va_S A0 H0 H1 locs1 → W p l e R s m args below meth c H1 locs1 (cells + mc) (slots + ms) Q (F0 m (pc + 3) ls rest)) : W p l e R s m args below meth c H locs cells slots Q (F0 m pc ls st0) := by
  refine vx_callv hr hS (fun q _ h => hF q h) hF (fun q _ h => hF q h) (fun E ce q9 u t H1 locs1 ht hvm hpx hB hz hk hS1 h1 h2 h3 => ?_) (fun u t H1 locs1 ht hvm hw hB hz hk hS1 => ?_)
  · obtain ⟨hzE, hP1, hD1⟩ := hB
    rw [ht] at hP1
    obtain ⟨g1, g2⟩ := fl_mix (List.Perm.refl _) hP hD hF hk hP1 hD1
    exact kx E ce q9 H1 locs1 hzE g1 g2 hS1 h1 h2 h3
  · obtain ⟨hP1, hD1⟩ := hB
    rw [ht] at hP1
    obtain ⟨g1, g2⟩ := fl_mix (List.Perm.refl _) hP hD hF hk hP1 hD1
    exact kk H1 locs1 hw g1 g2 hS1
theorem l_kio {z : Int32 ⊕ String} {ws : va_W} {mc ms : Nat} {a : Array Value} (hr : vx_Run p l e R s m args below meth c H locs cells slots mc ms (F0 m pc ls st0) rest (xoQi z a) (xoX z) (fun _ => False)) (hP : va_P (dC, dI) vwCl ws H) (hS : va_S A0 H0 H locs)
    (kx : ∀ (E : String) (ce : Cell) (q9 : Addr) (H1 : Heap) (locs1 : List Loc), z = .inr E → va_P (dC, dI) vwCl ws H1 → va_S A0 H0 H1 locs1 → H1[q9]? = some ce → ce.vm = .none → s.vm.findClass E = some ce.cls → vx_W p l e R s m args below meth c H1 locs1 (cells + mc) (slots + ms) Q (F0 m pc ls rest) q9)
    (kk : ∀ (r : Int32) (H1 : Heap) (locs1 : List Loc), z = .inl r → va_P (dC, dI) vwCl ws H1 → va_S A0 H0 H1 locs1 → W p l e R s m args below meth c H1 locs1 (cells + mc) (slots + ms) Q (F0 m (pc + 3) ls (.int r :: rest))) : W p l e R s m args below meth c H locs cells slots Q (F0 m pc ls st0) := by
  refine vx_calli hr hS (fun q _ h => False.elim h) (fun q h => False.elim h) (fun q _ h => False.elim h) (fun E ce q9 u t H1 locs1 ht hvm hpx hB hz hk hS1 h1 h2 h3 => ?_) (fun r u t H1 locs1 ht hvm hw hB hz hk hS1 => ?_)
  · exact kx E ce q9 H1 locs1 hB (hP.kept (fun k q hq => hk q.1 (hP k q hq).lt (fun h => h))) hS1 h1 h2 h3
  · exact kk r H1 locs1 hw (hP.kept (fun k q hq => hk q.1 (hP k q hq).lt (fun h => h))) hS1
theorem l_Vi {z : Int32 ⊕ String} {y : MethodName} {wsC ws9 Ts : List Cond} {rm : Room} {bytes : ByteArray} {maxL nL index n mc ms : Nat} {ret : Option FieldType} {own C : String} {As : List Value} {wc wr wc' : va_W} {tc : List (ClassId × FieldType)} {b ci q0 : Nat} {qc : vw_C} {fs : List Value} (hx : p.tables.exec = Jvm.exec) (hb : c.code = cc) (hml : c.maxLocals = nL) (hown : s.vm.findClass own = some m.cls) (hts : ∀ w ∈ Ts, w.before args s = true) (hM : vx_Met l y wsC rm (va_Pc (.ref b :: As) (RWc' K dC dI H.size wc tc)) (xwQi dC dI (va_A wc H.size) wc' z) (xwX dC dI (va_A wc H.size) wc' z) mc ms (va_A wc H.size)) (hG : GoodIn Ts (wsV own index C y wsC)) (hd : y.cls = C ∧ y.cls ≠ "java/lang/invoke/MethodHandle" ∧ y.cls ≠ "java/lang/invoke/VarHandle" ∧ (parseMethodDescriptor y.desc).map (fun d => d.parameters.length) = some n) (hw : wsC = Cond.code y bytes maxL ret :: ws9) (hR : rm.frames + 1 ≤ R.frames ∧ 8 + (maxL + 11) + rm.locals ≤ R.locals) (hcs : rm.cells = mc ∧ rm.slots = ms) (hNW : NW s) (hCE : CE K A0 s s.heap) (hP : va_P (dC, dI) vwCl (wc ++ wr) H) (hD : va_D A0 (wc ++ wr)) (hS : va_S A0 s.heap H locs) (hA : ∀ q : Nat, s.heap.size ≤ q → A0 q) (hKc : va_K (dC, dI) vwCl tc s) (hq : vwCl[ci]? = some qc) (hC9 : qc.1 = C) (he : wc[q0]? = some (b, .inr (ci, fs))) (hsize : ls.size = nL) (hnn : As.length = n) (hst0 : st0 = As.reverse ++ .ref b :: rest) (hroom : (rest.map fun v => v.category).sum ≤ 8) (hdg : decode cc pc = .ok (.invokevirtual index, 3)) (hcl : cells + mc ≤ R.cells ∧ slots + ms ≤ R.slots)
    (kx : ∀ (E : String) (ce : Cell) (q9 : Addr) (H1 : Heap) (locs1 : List Loc), z = .inr E → va_P (dC, dI) vwCl (wc' ++ wr) H1 → va_D A0 (wc' ++ wr) → va_S A0 s.heap H1 locs1 → H1[q9]? = some ce → ce.vm = .none → s.vm.findClass E = some ce.cls → vx_W p l e R s m args below meth c H1 locs1 (cells + mc) (slots + ms) Q (F0 m pc ls rest) q9)
    (kk : ∀ (r : Int32) (H1 : Heap) (locs1 : List Loc), z = .inl r → va_P (dC, dI) vwCl (wc' ++ wr) H1 → va_D A0 (wc' ++ wr) → va_S A0 s.heap H1 locs1 → W p l e R s m args below meth c H1 locs1 (cells + mc) (slots + ms) Q (F0 m (pc + 3) ls (.int r :: rest))) : W p l e R s m args below meth c H locs cells slots Q (F0 m pc ls st0) := by
  have hPc := P_part (List.Perm.refl _) hP
  have hDp := D_part (List.Perm.refl _) hD
  have hF : ∀ q, va_A wc H.size q → A0 q := all_A hDp hS hA
  have hDc : va_D (fun _ => True) wc := hDp.weaken (fun _ _ _ _ => trivial)
  obtain ⟨cell, r1, r2, r3⟩ := va_recv hKc hPc hq he
  rw [hC9] at r3
  exact l_ki (vx_runV (As := As) (rest := rest) ⟨hx, hb, hml, hown, hts⟩ hM (cwV n hts hG hw hcs.1 hcs.2 hd hR) ⟨(rwc_pre hNW hCE hS hPc hDc hKc hF).1, ⟨cell, r1, r2, r3⟩, (rwc_pre hNW hCE hS hPc hDc hKc hF).2⟩ (g := F0 m pc ls st0) rfl hnn hsize hst0 (lv_room hroom) hdg hcl) hP hD hS hF kx kk
theorem l_Vv {z : Unit ⊕ String} {y : MethodName} {wsC ws9 Ts : List Cond} {rm : Room} {bytes : ByteArray} {maxL nL index n mc ms : Nat} {ret : Option FieldType} {own C : String} {As : List Value} {wc wr wc' : va_W} {tc : List (ClassId × FieldType)} {b ci q0 : Nat} {qc : vw_C} {fs : List Value} (hx : p.tables.exec = Jvm.exec) (hb : c.code = cc) (hml : c.maxLocals = nL) (hown : s.vm.findClass own = some m.cls) (hts : ∀ w ∈ Ts, w.before args s = true) (hM : vx_Met l y wsC rm (va_Pc (.ref b :: As) (RWc' K dC dI H.size wc tc)) (xwQv dC dI (va_A wc H.size) wc' z) (xwX dC dI (va_A wc H.size) wc' z) mc ms (va_A wc H.size)) (hG : GoodIn Ts (wsV own index C y wsC)) (hd : y.cls = C ∧ y.cls ≠ "java/lang/invoke/MethodHandle" ∧ y.cls ≠ "java/lang/invoke/VarHandle" ∧ (parseMethodDescriptor y.desc).map (fun d => d.parameters.length) = some n) (hw : wsC = Cond.code y bytes maxL ret :: ws9) (hR : rm.frames + 1 ≤ R.frames ∧ 8 + (maxL + 11) + rm.locals ≤ R.locals) (hcs : rm.cells = mc ∧ rm.slots = ms) (hNW : NW s) (hCE : CE K A0 s s.heap) (hP : va_P (dC, dI) vwCl (wc ++ wr) H) (hD : va_D A0 (wc ++ wr)) (hS : va_S A0 s.heap H locs) (hA : ∀ q : Nat, s.heap.size ≤ q → A0 q) (hKc : va_K (dC, dI) vwCl tc s) (hq : vwCl[ci]? = some qc) (hC9 : qc.1 = C) (he : wc[q0]? = some (b, .inr (ci, fs))) (hsize : ls.size = nL) (hnn : As.length = n) (hst0 : st0 = As.reverse ++ .ref b :: rest) (hroom : (rest.map fun v => v.category).sum ≤ 8) (hdg : decode cc pc = .ok (.invokevirtual index, 3)) (hcl : cells + mc ≤ R.cells ∧ slots + ms ≤ R.slots)
    (kx : ∀ (E : String) (ce : Cell) (q9 : Addr) (H1 : Heap) (locs1 : List Loc), z = .inr E → va_P (dC, dI) vwCl (wc' ++ wr) H1 → va_D A0 (wc' ++ wr) → va_S A0 s.heap H1 locs1 → H1[q9]? = some ce → ce.vm = .none → s.vm.findClass E = some ce.cls → vx_W p l e R s m args below meth c H1 locs1 (cells + mc) (slots + ms) Q (F0 m pc ls rest) q9)
    (kk : ∀ (H1 : Heap) (locs1 : List Loc), z = .inl () → va_P (dC, dI) vwCl (wc' ++ wr) H1 → va_D A0 (wc' ++ wr) → va_S A0 s.heap H1 locs1 → W p l e R s m args below meth c H1 locs1 (cells + mc) (slots + ms) Q (F0 m (pc + 3) ls (rest))) : W p l e R s m args below meth c H locs cells slots Q (F0 m pc ls st0) := by
  have hPc := P_part (List.Perm.refl _) hP
  have hDp := D_part (List.Perm.refl _) hD
  have hF : ∀ q, va_A wc H.size q → A0 q := all_A hDp hS hA
  have hDc : va_D (fun _ => True) wc := hDp.weaken (fun _ _ _ _ => trivial)
  obtain ⟨cell, r1, r2, r3⟩ := va_recv hKc hPc hq he
  rw [hC9] at r3
  exact l_kv (vx_runV (As := As) (rest := rest) ⟨hx, hb, hml, hown, hts⟩ hM (cwV n hts hG hw hcs.1 hcs.2 hd hR) ⟨(rwc_pre hNW hCE hS hPc hDc hKc hF).1, ⟨cell, r1, r2, r3⟩, (rwc_pre hNW hCE hS hPc hDc hKc hF).2⟩ (g := F0 m pc ls st0) rfl hnn hsize hst0 (lv_room hroom) hdg hcl) hP hD hS hF kx kk
theorem l_Vio {z : Int32 ⊕ String} {y : MethodName} {wsC ws9 Ts : List Cond} {rm : Room} {bytes : ByteArray} {maxL nL index n mc ms : Nat} {ret : Option FieldType} {own C : String} {As : List Value} {wc wr : va_W} {tc : List (ClassId × FieldType)} {b ci q0 : Nat} {qc : vw_C} {fs : List Value} (hx : p.tables.exec = Jvm.exec) (hb : c.code = cc) (hml : c.maxLocals = nL) (hown : s.vm.findClass own = some m.cls) (hts : ∀ w ∈ Ts, w.before args s = true) (hM : vx_Met l y wsC rm (va_Pc (.ref b :: As) (ROc K dC dI wc tc)) (xoQi z) (xoX z) mc ms (fun _ => False)) (hG : GoodIn Ts (wsV own index C y wsC)) (hd : y.cls = C ∧ y.cls ≠ "java/lang/invoke/MethodHandle" ∧ y.cls ≠ "java/lang/invoke/VarHandle" ∧ (parseMethodDescriptor y.desc).map (fun d => d.parameters.length) = some n) (hw : wsC = Cond.code y bytes maxL ret :: ws9) (hR : rm.frames + 1 ≤ R.frames ∧ 8 + (maxL + 11) + rm.locals ≤ R.locals) (hcs : rm.cells = mc ∧ rm.slots = ms) (hNW : NW s) (hCE : CE K A0 s s.heap) (hP : va_P (dC, dI) vwCl (wc ++ wr) H) (hD : va_D A0 (wc ++ wr)) (hS : va_S A0 s.heap H locs) (hA : ∀ q : Nat, s.heap.size ≤ q → A0 q) (hKc : va_K (dC, dI) vwCl tc s) (hq : vwCl[ci]? = some qc) (hC9 : qc.1 = C) (he : wc[q0]? = some (b, .inr (ci, fs))) (hsize : ls.size = nL) (hnn : As.length = n) (hst0 : st0 = As.reverse ++ .ref b :: rest) (hroom : (rest.map fun v => v.category).sum ≤ 8) (hdg : decode cc pc = .ok (.invokevirtual index, 3)) (hcl : cells + mc ≤ R.cells ∧ slots + ms ≤ R.slots)
    (kx : ∀ (E : String) (ce : Cell) (q9 : Addr) (H1 : Heap) (locs1 : List Loc), z = .inr E → va_P (dC, dI) vwCl (wc ++ wr) H1 → va_D A0 (wc ++ wr) → va_S A0 s.heap H1 locs1 → H1[q9]? = some ce → ce.vm = .none → s.vm.findClass E = some ce.cls → vx_W p l e R s m args below meth c H1 locs1 (cells + mc) (slots + ms) Q (F0 m pc ls rest) q9)
    (kk : ∀ (r : Int32) (H1 : Heap) (locs1 : List Loc), z = .inl r → va_P (dC, dI) vwCl (wc ++ wr) H1 → va_D A0 (wc ++ wr) → va_S A0 s.heap H1 locs1 → W p l e R s m args below meth c H1 locs1 (cells + mc) (slots + ms) Q (F0 m (pc + 3) ls (.int r :: rest))) : W p l e R s m args below meth c H locs cells slots Q (F0 m pc ls st0) := by
  have hPc := P_part (List.Perm.refl _) hP
  have hDp := D_part (List.Perm.refl _) hD
  have hF : ∀ q, va_A wc H.size q → A0 q := all_A hDp hS hA
  have hDc : va_D (fun _ => True) wc := hDp.weaken (fun _ _ _ _ => trivial)
  obtain ⟨cell, r1, r2, r3⟩ := va_recv hKc hPc hq he
  rw [hC9] at r3
  exact l_kio (vx_runV (As := As) (rest := rest) ⟨hx, hb, hml, hown, hts⟩ hM (cwV n hts hG hw hcs.1 hcs.2 hd hR) ⟨(roc_pre hNW hCE hS hPc hKc).1, ⟨cell, r1, r2, r3⟩, (roc_pre hNW hCE hS hPc hKc).2⟩ (g := F0 m pc ls st0) rfl hnn hsize hst0 (lv_room hroom) hdg hcl) hP hS (fun E ce q9 H1 locs1 hz hP1 hS1 g1 g2 g3 => kx E ce q9 H1 locs1 hz hP1 hD hS1 g1 g2 g3) (fun r H1 locs1 hz hP1 hS1 => kk r H1 locs1 hz hP1 hD hS1)
theorem l_pre {wc : va_W} {tc : List (ClassId × FieldType)} {As : List Value} (hNW : NW s) (hCE : CE K A0 s s.heap) (hXN : XN s) (hXE : XE s) (hS : va_S A0 s.heap H locs) (hPc : va_P (dC, dI) vwCl wc H) (hDc : va_D (fun _ => True) wc) (hKc : va_K (dC, dI) vwCl tc s) (hF : ∀ q, va_A wc H.size q → A0 q) : PreS s H (va_Pc As (RWl K dC dI H.size wc tc)) As :=
  ⟨RWl.blind, fun U hU hW => ⟨rfl, ((rwc_pre (As := As) hNW hCE hS hPc hDc hKc hF).2 U hU hW).2, hXN.moved hW.alike, hXE.warm hW⟩⟩
theorem l_S {r : Int32} {y : MethodName} {wsC ws9 Ts : List Cond} {rm : Room} {bytes : ByteArray} {maxL nL index n mc ms : Nat} {ret : Option FieldType} {own C : String} {hh : List (Nat × Nat × Nat × Nat)} {As : List Value} {ws wc wr wc' ws' : va_W} {tc : List (ClassId × FieldType)} (hx : p.tables.exec = Jvm.exec) (hb : c.code = cc) (hml : c.maxLocals = nL) (hown : s.vm.findClass own = some m.cls) (hts : ∀ w ∈ Ts, w.before args s = true) (hM : Met l y wsC rm (va_Pc As (RWl K dC dI H.size wc tc)) (rwQi dC dI (va_A wc H.size) wc' r) mc ms (va_A wc H.size)) (hG : GoodIn Ts (va_wsS own index y wsC)) (hd : y.cls = C ∧ y.cls ≠ "java/lang/invoke/MethodHandle" ∧ y.cls ≠ "java/lang/invoke/VarHandle" ∧ (parseMethodDescriptor y.desc).map (fun d => d.parameters.length) = some n) (hw : wsC = Cond.codeWith y bytes maxL ret hh :: ws9) (hR : rm.frames + 1 ≤ R.frames ∧ 8 + (maxL + 11) + rm.locals ≤ R.locals) (hcs : rm.cells = mc ∧ rm.slots = ms) (hNW : NW s) (hCE : CE K A0 s s.heap) (hXN : XN s) (hXE : XE s) (hP : va_P (dC, dI) vwCl ws H) (hD : va_D A0 ws) (hS : va_S A0 s.heap H locs) (hA : ∀ q : Nat, s.heap.size ≤ q → A0 q) (hp : ws.Perm (wc ++ wr)) (hp' : (wc' ++ wr).Perm ws') (hKc : va_K (dC, dI) vwCl tc s) (hsize : ls.size = nL) (hnn : As.length = n) (hst0 : st0 = As.reverse ++ rest) (hroom : (rest.map fun v => v.category).sum ≤ 8) (hdg : decode cc pc = .ok (.invokestatic index, 3)) (hcl : cells + mc ≤ R.cells ∧ slots + ms ≤ R.slots)
    (kk : ∀ (H1 : Heap) (locs1 : List Loc), va_P (dC, dI) vwCl ws' H1 → va_D A0 ws' → va_S A0 s.heap H1 locs1 → W p l e R s m args below meth c H1 locs1 (cells + mc) (slots + ms) Q (F0 m (pc + 3) ls (.int r :: rest))) : W p l e R s m args below meth c H locs cells slots Q (F0 m pc ls st0) := by
  have hPc := P_part hp hP
  have hDp := D_part hp hD
  have hF : ∀ q, va_A wc H.size q → A0 q := all_A hDp hS hA
  have hDc : va_D (fun _ => True) wc := hDp.weaken (fun _ _ _ _ => trivial)
  refine va_calli (vx_runSW (As := As) (rest := rest) ⟨hx, hb, hml, hown, hts⟩ hM (vx_cwSW n hts hG hw hcs.1 hcs.2 hd.2 hR) (l_pre hNW hCE hXN hXE hS hPc hDc hKc hF) (g := F0 m pc ls st0) rfl hnn hsize hst0 (lv_room hroom) hdg hcl) hS (fun q _ h => hF q h) hF (fun r1 u t H1 locs1 ht hvm hw hB hz hk hS1 => ?_)
  have hw : r1 = r := hw
  subst hw
  obtain ⟨h1, h2⟩ := hB
  rw [ht] at h1
  obtain ⟨g1, g2⟩ := fl_mix hp hP hD hF hk h1 h2
  exact kk H1 locs1 (g1.perm hp') (g2.perm hp') hS1
/-- caught by a row of the table, with its own class; the rows ahead name others of the four -/
theorem l_catch {own : String} {E : String} {ce : Cell} {q : Addr} (hE : E ∈ exL) (hown : s.vm.findClass own = some m.cls) (hXN : XN s) (hXE : XE s) (pre : List ExceptionTableEntry) (x : ExceptionTableEntry) (suf : List ExceptionTableEntry) (hsplit : c.exceptionTable.toList = pre ++ x :: suf)
    (hpass : ∀ z ∈ pre, covers z pc = false ∨ (z.catchType ≠ 0 ∧ ∃ nm ∈ exL, E ≠ nm ∧ (Cond.classLink own z.catchType nm).before args s = true)) (hx : covers x pc = true) (h0 : x.catchType ≠ 0)
    (hlink : (Cond.classLink own x.catchType E).before args s = true) (hcell : H[q]? = some ce) (hv : ce.vm = .none) (hcl : s.vm.findClass E = some ce.cls)
    (kk : W p l e R s m args below meth c H locs cells slots Q (F0 m x.handlerPc ls [.ref q])) : vx_W p l e R s m args below meth c H locs cells slots Q (F0 m pc ls rest) q :=
  vx_catch hown pre x suf hsplit (fun z hz => (hpass z hz).elim Or.inl (fun ⟨h1, nm, h2, h3, h4⟩ => Or.inr ⟨h1, nm, h4, hXN E hE nm h2 h3⟩)) hx h0 hlink (va_Nw.use rfl (hXE E hE)) hcell hv hcl kk
end LB
