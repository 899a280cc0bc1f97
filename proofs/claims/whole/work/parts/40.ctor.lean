theorem K_same {D : va_G} {cl : List vw_C} {tys : List (ClassId × FieldType)} {U : State} {c1 c2 : ClassId} {ty : FieldType} (h : va_K D cl tys U) (i j : Nat) (hi : tys[i]? = some (c1, ty)) (hj : tys[j]? = some (c2, ty)) (hty : ∀ C, ty ≠ .object C) : c1 = c2 := by
  have h1 := (h.2 i _ hi).2
  have h2 := (h.2 j _ hj).2
  cases ty <;> first | exact Option.some.inj (h1.symm.trans h2) | exact absurd rfl (hty _)
abbrev ctQ (Bc : (Nat → Prop) → State → Prop) (A : Nat → Prop) : Array Value → State → Outcome → State → Prop := va_Qv (S := Unit) (fun _ => True) (fun _ t => Bc A t) A
section CT
variable {dC : Nat → ClassId} {dI : Nat → Nat → Nat} {l : Launch}
theorem ct_start {y : MethodName} {ws0 ws' : List Cond} {rm : Room} {Bc : (Nat → Prop) → State → Prop} {cc : ByteArray} {maxL mc ms sz : Nat} {ret : Option FieldType} {As : List Value} {ws : va_W} {tys : List (ClassId × FieldType)}
    (hy : plainName y.cls = true) (hw : ws0 = Cond.code y cc maxL ret :: ws') (hn : (lg_sl As).length ≤ maxL)
    (body : ∀ (p : Program) (e : Env) (s : State) (m : MethodId) (args : Array Value) (below : List Frame) (meth : Method) (c : Code), p.tables.exec = Jvm.exec → c.code = cc → meth.sig.returnType = ret → c.maxLocals = maxL → s.vm.findClass y.cls = some m.cls → (∀ w ∈ ws0, w.before args s = true) → meth.locks = false → NW s → va_K (dC, dI) vwCl tys s → meth.name = y.name →
      ∀ (A : Nat → Prop), (∀ q : Nat, s.heap.size ≤ q → A q) → ∀ (H : Heap) (locs : List Loc) (ls : Array Slot), va_P (dC, dI) vwCl ws H → va_D A ws → va_S A s.heap H locs → lv_has ls maxL (lv_args 0 As) → W p l e rm s m args below meth c H locs 0 0 (MQ below (ctQ Bc A) args s mc ms A) (F0 m 0 ls [])) :
    Met l y ws0 rm (va_Pc As (RWp dC dI sz ws tys)) (ctQ Bc (va_A ws sz)) mc ms (va_A ws sz) := by
  refine Met.ofW (cc := cc) (maxL := maxL) (ret := ret) hy hw ?_
  intro p e s m args below meth c s₁ B hml hv
  obtain ⟨rfl, hsz, hP, hK, hD, hNW⟩ := hv
  have hl := lv_entry As (n := maxL) hn
  rw [lg_entry_eq]
  subst hsz
  exact body p e s m _ below meth c B.exec B.bytes B.returns hml (findClass_of_methodNamed B.named) (atoms_spec (ws := ws0) B.pre) B.notSynchronized hNW hK (name_of_methodNamed B.named B.method).1 _ (fun q h => Or.inr h) s.heap [] _ hP hD.self va_S.rf hl
variable {p : Program} {e : Env} {R : Room} {s : State} {m : MethodId} {args : Array Value} {below : List Frame} {meth : Method} {c : Code} {H : Heap} {locs : List Loc} {cells slots : Nat} {Q : State → Prop}
variable {cc : ByteArray} {pc : Nat} {ls : Array Slot} {rest st0 : List Value} {A0 : Nat → Prop} {H0 : Heap} {ws : va_W} {tys : List (ClassId × FieldType)}
theorem ct_k {Bc : (Nat → Prop) → State → Prop} {mc ms : Nat} {a : Array Value} {wc wr : va_W} (hr : va_Run p l e R s m args below meth c H locs cells slots mc ms (F0 m pc ls st0) rest (ctQ Bc (va_A wc H.size) a) (va_A wc H.size)) (hP : va_P (dC, dI) vwCl (wr ++ wc) H) (hD : va_D A0 (wr ++ wc)) (hS : va_S A0 H0 H locs) (hF : ∀ q, va_A wc H.size q → A0 q)
    (kk : ∀ (t : State) (H1 : Heap) (locs1 : List Loc), t.heap = H1 → s.vm.Alike t.vm → Bc (va_A wc H.size) t → (∀ wc' : va_W, va_P (dC, dI) vwCl wc' H1 → va_D (va_A wc H.size) wc' → va_P (dC, dI) vwCl (wr ++ wc') H1 ∧ va_D A0 (wr ++ wc')) → va_S A0 H0 H1 locs1 → W p l e R s m args below meth c H1 locs1 (cells + mc) (slots + ms) Q (F0 m (pc + 3) ls rest)) : W p l e R s m args below meth c H locs cells slots Q (F0 m pc ls st0) := by
  refine va_callv hr hS (fun q _ h => hF q h) hF (fun u t H1 locs1 ht hvm hw hB hz hk hS1 => ?_)
  refine kk t H1 locs1 ht hvm hB (fun wc' h1 h2 => ?_) hS1
  obtain ⟨g1, g2⟩ := fl_mix List.perm_append_comm hP hD hF hk h1 h2
  exact ⟨g1.perm List.perm_append_comm, g2.perm List.perm_append_comm⟩
theorem ctI {Bc : (Nat → Prop) → State → Prop} {y : MethodName} {wsC ws9 Ts : List Cond} {rm : Room} {bytes : ByteArray} {maxL nL index n mc ms : Nat} {own C : String} {b : Nat} {As : List Value} {wc wr : va_W} {tc : List (ClassId × FieldType)} (hx : p.tables.exec = Jvm.exec) (hb : c.code = cc) (hml : c.maxLocals = nL) (hown : s.vm.findClass own = some m.cls) (hts : ∀ w ∈ Ts, w.before args s = true) (hM : Met l y wsC rm (va_Pc (.ref b :: As) (RWp dC dI H.size wc tc)) (ctQ Bc (va_A wc H.size)) mc ms (va_A wc H.size)) (hG : GoodIn Ts wsC) (hd : y.cls = C ∧ y.cls ≠ "java/lang/invoke/MethodHandle" ∧ y.cls ≠ "java/lang/invoke/VarHandle" ∧ (parseMethodDescriptor y.desc).map (fun d => d.parameters.length) = some n) (hw : wsC = Cond.code y bytes maxL none :: ws9) (hR : rm.frames + 1 ≤ R.frames ∧ 8 + (maxL + 11) + rm.locals ≤ R.locals) (hcs : rm.cells = mc ∧ rm.slots = ms) (hlk : (Cond.methodLink own index y).before args s = true) (hy1 : y.name = "<init>") (hini : (Cond.initialized C).before args s = true) (hin : (Cond.instanceMethod y).before args s = true) (hNW : NW s) (hKc : va_K (dC, dI) vwCl tc s) (hP : va_P (dC, dI) vwCl (wr ++ wc) H) (hD : va_D A0 (wr ++ wc)) (hS : va_S A0 H0 H locs) (hA : ∀ q : Nat, H0.size ≤ q → A0 q) (hsize : ls.size = nL) (hnn : As.length = n) (hst0 : st0 = As.reverse ++ .ref b :: rest) (hroom : (rest.map fun v => v.category).sum ≤ 8) (hdg : decode cc pc = .ok (.invokespecial index, 3)) (hcl : cells + mc ≤ R.cells ∧ slots + ms ≤ R.slots)
    (kk : ∀ (t : State) (H1 : Heap) (locs1 : List Loc), t.heap = H1 → s.vm.Alike t.vm → Bc (va_A wc H.size) t → (∀ wc' : va_W, va_P (dC, dI) vwCl wc' H1 → va_D (va_A wc H.size) wc' → va_P (dC, dI) vwCl (wr ++ wc') H1 ∧ va_D A0 (wr ++ wc')) → va_S A0 H0 H1 locs1 → W p l e R s m args below meth c H1 locs1 (cells + mc) (slots + ms) Q (F0 m (pc + 3) ls rest)) : W p l e R s m args below meth c H locs cells slots Q (F0 m pc ls st0) := by
  have hpm : (wr ++ wc).Perm (wc ++ wr) := List.perm_append_comm
  have hPc := P_part hpm hP
  have hDp := D_part hpm hD
  have hF : ∀ q, va_A wc H.size q → A0 q := all_A hDp hS hA
  have hDc : va_D (fun _ => True) wc := hDp.weaken (fun _ _ _ _ => trivial)
  have hini : (Cond.initialized y.cls).before args s = true := by rw [hd.1]; exact hini
  exact ct_k (va_runI (As := As) (rest := rest) ⟨hx, hb, hml, hown, hts⟩ hM (cwI n hts hG hw hcs.1 hcs.2 hini hlk hin hy1 hd.2 hR) (rw_pre hNW hPc hDc hKc) (g := F0 m pc ls st0) rfl hnn hsize hst0 (lv_room hroom) hdg hcl) hP hD hS hF kk
theorem ctIN {Bc : (Nat → Prop) → State → Prop} {y : MethodName} {wsC ws9 Ts : List Cond} {rm : Room} {bytes : ByteArray} {maxL nL index n mc ms : Nat} {own C host : String} {b : Nat} {As : List Value} {wc wr : va_W} {tc : List (ClassId × FieldType)} (hx : p.tables.exec = Jvm.exec) (hb : c.code = cc) (hml : c.maxLocals = nL) (hown : s.vm.findClass own = some m.cls) (hts : ∀ w ∈ Ts, w.before args s = true) (hM : Met l y wsC rm (va_Pc (.ref b :: As) (RWp dC dI H.size wc tc)) (ctQ Bc (va_A wc H.size)) mc ms (va_A wc H.size)) (hG : GoodIn Ts wsC) (hd : y.cls = C ∧ y.cls ≠ "java/lang/invoke/MethodHandle" ∧ y.cls ≠ "java/lang/invoke/VarHandle" ∧ (parseMethodDescriptor y.desc).map (fun d => d.parameters.length) = some n) (hw : wsC = Cond.code y bytes maxL none :: ws9) (hR : rm.frames + 1 ≤ R.frames ∧ 8 + (maxL + 11) + rm.locals ≤ R.locals) (hcs : rm.cells = mc ∧ rm.slots = ms) (hlk : va_Nw (.methodLinkNest own index y host) s) (hy1 : y.name = "<init>") (hini : (Cond.initialized C).before args s = true) (hin : (Cond.instanceMethod y).before args s = true) (hNW : NW s) (hKc : va_K (dC, dI) vwCl tc s) (hP : va_P (dC, dI) vwCl (wr ++ wc) H) (hD : va_D A0 (wr ++ wc)) (hS : va_S A0 H0 H locs) (hA : ∀ q : Nat, H0.size ≤ q → A0 q) (hsize : ls.size = nL) (hnn : As.length = n) (hst0 : st0 = As.reverse ++ .ref b :: rest) (hroom : (rest.map fun v => v.category).sum ≤ 8) (hdg : decode cc pc = .ok (.invokespecial index, 3)) (hcl : cells + mc ≤ R.cells ∧ slots + ms ≤ R.slots)
    (kk : ∀ (t : State) (H1 : Heap) (locs1 : List Loc), t.heap = H1 → s.vm.Alike t.vm → Bc (va_A wc H.size) t → (∀ wc' : va_W, va_P (dC, dI) vwCl wc' H1 → va_D (va_A wc H.size) wc' → va_P (dC, dI) vwCl (wr ++ wc') H1 ∧ va_D A0 (wr ++ wc')) → va_S A0 H0 H1 locs1 → W p l e R s m args below meth c H1 locs1 (cells + mc) (slots + ms) Q (F0 m (pc + 3) ls rest)) : W p l e R s m args below meth c H locs cells slots Q (F0 m pc ls st0) := by
  have hpm : (wr ++ wc).Perm (wc ++ wr) := List.perm_append_comm
  have hPc := P_part hpm hP
  have hDp := D_part hpm hD
  have hF : ∀ q, va_A wc H.size q → A0 q := all_A hDp hS hA
  have hDc : va_D (fun _ => True) wc := hDp.weaken (fun _ _ _ _ => trivial)
  have hini : (Cond.initialized y.cls).before args s = true := by rw [hd.1]; exact hini
  exact ct_k (va_runIN (As := As) (rest := rest) ⟨hx, hb, hml, hown, hts⟩ hM ⟨va_cnB n hts hG hw hcs.1 hcs.2 hlk hini hd.2 hR, hy1, hin⟩ (rw_pre hNW hPc hDc hKc) (g := F0 m pc ls st0) rfl hnn hsize hst0 (lv_room hroom) hdg hcl) hP hD hS hF kk
end CT
theorem dvX0 : ∀ j, j < 4 → defaultValue (tyX0 j) = vp_V [.null, .int 0, .null, .int 0] j := fun j hj => by
  rcases (show j = 0 ∨ j = 1 ∨ j = 2 ∨ j = 3 by omega) with rfl | rfl | rfl | rfl <;> rfl
theorem dvX1 : ∀ j, j < 8 → defaultValue (tyX1 j) = vp_V [.null, .null, .null, .null, .null, .int 0, .int 0, .int 0] j := fun j hj => by
  rcases (show j = 0 ∨ j = 1 ∨ j = 2 ∨ j = 3 ∨ j = 4 ∨ j = 5 ∨ j = 6 ∨ j = 7 by omega) with rfl | rfl | rfl | rfl | rfl | rfl | rfl | rfl <;> rfl
theorem dvX2 : ∀ j, j < 14 → defaultValue (tyX2 j) = vp_V [.null, .int 0, .int 0, .int 0, .null, .int 0, .null, .null, .int 0, .int 0, .int 0, .int 0, .int 0, .int 0] j := fun j hj => by
  rcases (show j = 0 ∨ j = 1 ∨ j = 2 ∨ j = 3 ∨ j = 4 ∨ j = 5 ∨ j = 6 ∨ j = 7 ∨ j = 8 ∨ j = 9 ∨ j = 10 ∨ j = 11 ∨ j = 12 ∨ j = 13 by omega) with rfl | rfl | rfl | rfl | rfl | rfl | rfl | rfl | rfl | rfl | rfl | rfl | rfl | rfl <;> rfl
theorem dvX3 : ∀ j, j < 4 → defaultValue (tyX3 j) = vp_V [.null, .int 0, .int 0, .int 0] j := fun j hj => by
  rcases (show j = 0 ∨ j = 1 ∨ j = 2 ∨ j = 3 by omega) with rfl | rfl | rfl | rfl <;> rfl
theorem dvX4 : ∀ j, j < 6 → defaultValue (tyX4 j) = vp_V [.int 0, .int 0, .int 0, .int 0, .null, .int 0] j := fun j hj => by
  rcases (show j = 0 ∨ j = 1 ∨ j = 2 ∨ j = 3 ∨ j = 4 ∨ j = 5 by omega) with rfl | rfl | rfl | rfl | rfl | rfl <;> rfl
theorem dvX5 : ∀ j, j < 2 → defaultValue (tyX5 j) = vp_V [.null, .int 0] j := fun j hj => by
  rcases (show j = 0 ∨ j = 1 by omega) with rfl | rfl <;> rfl
theorem dvX6 : ∀ j, j < 5 → defaultValue (tyX6 j) = vp_V [.null, .int 0, .int 0, .int 0, .int 0] j := fun j hj => by
  rcases (show j = 0 ∨ j = 1 ∨ j = 2 ∨ j = 3 ∨ j = 4 by omega) with rfl | rfl | rfl | rfl | rfl <;> rfl
theorem dvX7 : ∀ j, j < 11 → defaultValue (tyX7 j) = vp_V [.null, .int 0, .int 0, .null, .null, .null, .int 0, .null, .null, .null, .null] j := fun j hj => by
  rcases (show j = 0 ∨ j = 1 ∨ j = 2 ∨ j = 3 ∨ j = 4 ∨ j = 5 ∨ j = 6 ∨ j = 7 ∨ j = 8 ∨ j = 9 ∨ j = 10 by omega) with rfl | rfl | rfl | rfl | rfl | rfl | rfl | rfl | rfl | rfl | rfl <;> rfl
theorem dvX8 : ∀ j, j < 27 → defaultValue (tyX8 j) = vp_V [.null, .int 0, .int 0, .int 0, .null, .null, .null, .null, .null, .int 0, .null, .null, .int 0, .int 0, .null, .int 0, .null, .int 0, .int 0, .int 0, .int 0, .long 0, .int 0, .int 0, .int 0, .null, .int 0] j := fun j hj => by
  rcases (show j = 0 ∨ j = 1 ∨ j = 2 ∨ j = 3 ∨ j = 4 ∨ j = 5 ∨ j = 6 ∨ j = 7 ∨ j = 8 ∨ j = 9 ∨ j = 10 ∨ j = 11 ∨ j = 12 ∨ j = 13 ∨ j = 14 ∨ j = 15 ∨ j = 16 ∨ j = 17 ∨ j = 18 ∨ j = 19 ∨ j = 20 ∨ j = 21 ∨ j = 22 ∨ j = 23 ∨ j = 24 ∨ j = 25 ∨ j = 26 by omega) with rfl | rfl | rfl | rfl | rfl | rfl | rfl | rfl | rfl | rfl | rfl | rfl | rfl | rfl | rfl | rfl | rfl | rfl | rfl | rfl | rfl | rfl | rfl | rfl | rfl | rfl | rfl <;> rfl
theorem qX1_init : (yX1_init.cls = RX1) ∧ yX1_init.cls ≠ "java/lang/invoke/MethodHandle" ∧ yX1_init.cls ≠ "java/lang/invoke/VarHandle" ∧ (parseMethodDescriptor yX1_init.desc).map (fun d => d.parameters.length) = some 0 := by decide +kernel
set_option maxHeartbeats 4000000 in
set_option maxRecDepth 100000 in
theorem k_X1 (l : Launch) (dC : Nat → ClassId) (dI : Nat → Nat → Nat) (kI : ClassId) (h0 sz : Nat) : Met l yX1_init wsX1_init ({ frames := 1, cells := 5, slots := 1280, locals := 12 }) (va_Pc [.ref h0] (RWp dC dI sz ([(h0, .inr (1, [.null, .null, .null, .null, .null, .int 0, .int 0, .int 0]))]) [(kI, .int)])) (ctQ (fun A t => ∃ b : Nat → Nat, b 0 = h0 ∧ va_P (dC, dI) vwCl (DWc b kI (mkD (fun _ => 0) (fun _ => 0) (fun _ => 0) (fun _ => 0) (fun _ => 0) 0 0 0)) t.heap ∧ va_D A (DWc b kI (mkD (fun _ => 0) (fun _ => 0) (fun _ => 0) (fun _ => 0) (fun _ => 0) 0 0 0))) (va_A ([(h0, .inr (1, [.null, .null, .null, .null, .null, .int 0, .int 0, .int 0]))]) sz)) 5 1280 (va_A ([(h0, .inr (1, [.null, .null, .null, .null, .null, .int 0, .int 0, .int 0]))]) sz) := by
  refine ct_start (cc := cX1_init) (maxL := 1) (ret := none) (by decide) rfl (Nat.le_of_ble_eq_true rfl) ?_
  intro p e s m args below meth c hx hb hr hml hown hts hlocks hNW hK hin A hA H locs ls hP hD hS hl
  have hown : s.vm.findClass RX1 = some m.cls := hown
  have hl : lv_has ls 1 [(0, .ref h0)] := hl
  refine lv_aload_n hx hb dX1_init_0 rfl (lv_at hl 0 rfl) ?_
  refine W.objInit hx hb hown (hts _ (List.mem_of_getElem? (i := 1) rfl)) (hts _ (List.mem_of_getElem? (i := 2) rfl)) (hts _ (List.mem_of_getElem? (i := 3) rfl)) rfl (by rw [hml]; exact hl.1) rfl dX1_init_1 (Nat.le_of_ble_eq_true rfl) (Nat.le_of_ble_eq_true rfl) ?_
  refine W.eq (g2 := F0 m 4 ls []) rfl ?_
  refine lv_aload_n hx hb dX1_init_4 rfl (lv_at hl 0 rfl) ?_
  refine lv_sipush (v := 256) hx hb dX1_init_5 (by decide) ?_
  refine va_newa (atype := .int) (ty := .int) (N' := 256) (a0 := (256, .inl (fun _ => 0))) hx hb (hts _ (List.mem_of_getElem? (i := 4) rfl)) rfl hK hP hD hS hA (fun _ => rfl) (by decide) (by decide) (Nat.le_of_ble_eq_true rfl) (Nat.le_of_ble_eq_true rfl) (Nat.le_of_ble_eq_true rfl) dX1_init_8 (fun q1 cA H hK2 hP hD hS => ?_)
  have eK : kI = cA := K_same hK2 0 1 rfl rfl (fun _ h => nomatch h)
  subst eK
  have hP : va_P (dC, dI) vwCl (([(h0, .inr (1, [.null, .null, .null, .null, .null, .int 0, .int 0, .int 0]))] ++ [(q1, .inl (kI, 256, .inl (fun _ => 0)))])) H := hP
  have hD : va_D A (([(h0, .inr (1, [.null, .null, .null, .null, .null, .int 0, .int 0, .int 0]))] ++ [(q1, .inl (kI, 256, .inl (fun _ => 0)))])) := hD
  refine W.widen (k := 1) (n := 256) (Nat.le_of_ble_eq_true rfl) (Nat.le_of_ble_eq_true rfl) ?_
  refine va_putF (D := (dC, dI)) (ci := 1) (v := .ref q1) (ty := .array .int) (C := RX1) (T := TX1) (N := 8) hx hb hts (fun _ h => List.mem_cons_of_mem _ (List.mem_append_right _ h)) tyX1 tyX1_ok nmX1 hown hK hP hD hS 0 rfl rfl 0 (by decide) (hts _ (List.mem_of_getElem? (i := 5) rfl)) (fun _ h9 => h9) rfl hin rfl (by decide +kernel) rfl rfl (Nat.le_of_ble_eq_true rfl) dX1_init_10 (fun H locs hP hD hS => ?_)
  have hP : va_P (dC, dI) vwCl (([(h0, .inr (1, [.ref q1, .null, .null, .null, .null, .int 0, .int 0, .int 0]))] ++ [(q1, .inl (kI, 256, .inl (fun _ => 0)))])) H := hP
  have hD : va_D A (([(h0, .inr (1, [.ref q1, .null, .null, .null, .null, .int 0, .int 0, .int 0]))] ++ [(q1, .inl (kI, 256, .inl (fun _ => 0)))])) := hD
  refine lv_aload_n hx hb dX1_init_13 rfl (lv_at hl 0 rfl) ?_
  refine lv_sipush (v := 256) hx hb dX1_init_14 (by decide) ?_
  refine va_newa (atype := .int) (ty := .int) (N' := 256) (a0 := (256, .inl (fun _ => 0))) hx hb (hts _ (List.mem_of_getElem? (i := 4) rfl)) rfl hK hP hD hS hA (fun _ => rfl) (by decide) (by decide) (Nat.le_of_ble_eq_true rfl) (Nat.le_of_ble_eq_true rfl) (Nat.le_of_ble_eq_true rfl) dX1_init_17 (fun q2 cA H hK2 hP hD hS => ?_)
  have eK : kI = cA := K_same hK2 0 1 rfl rfl (fun _ h => nomatch h)
  subst eK
  have hP : va_P (dC, dI) vwCl ((([(h0, .inr (1, [.ref q1, .null, .null, .null, .null, .int 0, .int 0, .int 0]))] ++ [(q1, .inl (kI, 256, .inl (fun _ => 0)))]) ++ [(q2, .inl (kI, 256, .inl (fun _ => 0)))])) H := hP
  have hD : va_D A ((([(h0, .inr (1, [.ref q1, .null, .null, .null, .null, .int 0, .int 0, .int 0]))] ++ [(q1, .inl (kI, 256, .inl (fun _ => 0)))]) ++ [(q2, .inl (kI, 256, .inl (fun _ => 0)))])) := hD
  refine W.widen (k := 2) (n := 512) (Nat.le_of_ble_eq_true rfl) (Nat.le_of_ble_eq_true rfl) ?_
  refine va_putF (D := (dC, dI)) (ci := 1) (v := .ref q2) (ty := .array .int) (C := RX1) (T := TX1) (N := 8) hx hb hts (fun _ h => List.mem_cons_of_mem _ (List.mem_append_right _ h)) tyX1 tyX1_ok nmX1 hown hK hP hD hS 0 rfl rfl 1 (by decide) (hts _ (List.mem_of_getElem? (i := 6) rfl)) (fun _ h9 => h9) rfl hin rfl (by decide +kernel) rfl rfl (Nat.le_of_ble_eq_true rfl) dX1_init_19 (fun H locs hP hD hS => ?_)
  have hP : va_P (dC, dI) vwCl ((([(h0, .inr (1, [.ref q1, .ref q2, .null, .null, .null, .int 0, .int 0, .int 0]))] ++ [(q1, .inl (kI, 256, .inl (fun _ => 0)))]) ++ [(q2, .inl (kI, 256, .inl (fun _ => 0)))])) H := hP
  have hD : va_D A ((([(h0, .inr (1, [.ref q1, .ref q2, .null, .null, .null, .int 0, .int 0, .int 0]))] ++ [(q1, .inl (kI, 256, .inl (fun _ => 0)))]) ++ [(q2, .inl (kI, 256, .inl (fun _ => 0)))])) := hD
  refine lv_aload_n hx hb dX1_init_22 rfl (lv_at hl 0 rfl) ?_
  refine lv_sipush (v := 256) hx hb dX1_init_23 (by decide) ?_
  refine va_newa (atype := .int) (ty := .int) (N' := 256) (a0 := (256, .inl (fun _ => 0))) hx hb (hts _ (List.mem_of_getElem? (i := 4) rfl)) rfl hK hP hD hS hA (fun _ => rfl) (by decide) (by decide) (Nat.le_of_ble_eq_true rfl) (Nat.le_of_ble_eq_true rfl) (Nat.le_of_ble_eq_true rfl) dX1_init_26 (fun q3 cA H hK2 hP hD hS => ?_)
  have eK : kI = cA := K_same hK2 0 1 rfl rfl (fun _ h => nomatch h)
  subst eK
  have hP : va_P (dC, dI) vwCl (((([(h0, .inr (1, [.ref q1, .ref q2, .null, .null, .null, .int 0, .int 0, .int 0]))] ++ [(q1, .inl (kI, 256, .inl (fun _ => 0)))]) ++ [(q2, .inl (kI, 256, .inl (fun _ => 0)))]) ++ [(q3, .inl (kI, 256, .inl (fun _ => 0)))])) H := hP
  have hD : va_D A (((([(h0, .inr (1, [.ref q1, .ref q2, .null, .null, .null, .int 0, .int 0, .int 0]))] ++ [(q1, .inl (kI, 256, .inl (fun _ => 0)))]) ++ [(q2, .inl (kI, 256, .inl (fun _ => 0)))]) ++ [(q3, .inl (kI, 256, .inl (fun _ => 0)))])) := hD
  refine W.widen (k := 3) (n := 768) (Nat.le_of_ble_eq_true rfl) (Nat.le_of_ble_eq_true rfl) ?_
  refine va_putF (D := (dC, dI)) (ci := 1) (v := .ref q3) (ty := .array .int) (C := RX1) (T := TX1) (N := 8) hx hb hts (fun _ h => List.mem_cons_of_mem _ (List.mem_append_right _ h)) tyX1 tyX1_ok nmX1 hown hK hP hD hS 0 rfl rfl 2 (by decide) (hts _ (List.mem_of_getElem? (i := 7) rfl)) (fun _ h9 => h9) rfl hin rfl (by decide +kernel) rfl rfl (Nat.le_of_ble_eq_true rfl) dX1_init_28 (fun H locs hP hD hS => ?_)
  have hP : va_P (dC, dI) vwCl (((([(h0, .inr (1, [.ref q1, .ref q2, .ref q3, .null, .null, .int 0, .int 0, .int 0]))] ++ [(q1, .inl (kI, 256, .inl (fun _ => 0)))]) ++ [(q2, .inl (kI, 256, .inl (fun _ => 0)))]) ++ [(q3, .inl (kI, 256, .inl (fun _ => 0)))])) H := hP
  have hD : va_D A (((([(h0, .inr (1, [.ref q1, .ref q2, .ref q3, .null, .null, .int 0, .int 0, .int 0]))] ++ [(q1, .inl (kI, 256, .inl (fun _ => 0)))]) ++ [(q2, .inl (kI, 256, .inl (fun _ => 0)))]) ++ [(q3, .inl (kI, 256, .inl (fun _ => 0)))])) := hD
  refine lv_aload_n hx hb dX1_init_31 rfl (lv_at hl 0 rfl) ?_
  refine lv_sipush (v := 256) hx hb dX1_init_32 (by decide) ?_
  refine va_newa (atype := .int) (ty := .int) (N' := 256) (a0 := (256, .inl (fun _ => 0))) hx hb (hts _ (List.mem_of_getElem? (i := 4) rfl)) rfl hK hP hD hS hA (fun _ => rfl) (by decide) (by decide) (Nat.le_of_ble_eq_true rfl) (Nat.le_of_ble_eq_true rfl) (Nat.le_of_ble_eq_true rfl) dX1_init_35 (fun q4 cA H hK2 hP hD hS => ?_)
  have eK : kI = cA := K_same hK2 0 1 rfl rfl (fun _ h => nomatch h)
  subst eK
  have hP : va_P (dC, dI) vwCl ((((([(h0, .inr (1, [.ref q1, .ref q2, .ref q3, .null, .null, .int 0, .int 0, .int 0]))] ++ [(q1, .inl (kI, 256, .inl (fun _ => 0)))]) ++ [(q2, .inl (kI, 256, .inl (fun _ => 0)))]) ++ [(q3, .inl (kI, 256, .inl (fun _ => 0)))]) ++ [(q4, .inl (kI, 256, .inl (fun _ => 0)))])) H := hP
  have hD : va_D A ((((([(h0, .inr (1, [.ref q1, .ref q2, .ref q3, .null, .null, .int 0, .int 0, .int 0]))] ++ [(q1, .inl (kI, 256, .inl (fun _ => 0)))]) ++ [(q2, .inl (kI, 256, .inl (fun _ => 0)))]) ++ [(q3, .inl (kI, 256, .inl (fun _ => 0)))]) ++ [(q4, .inl (kI, 256, .inl (fun _ => 0)))])) := hD
  refine W.widen (k := 4) (n := 1024) (Nat.le_of_ble_eq_true rfl) (Nat.le_of_ble_eq_true rfl) ?_
  refine va_putF (D := (dC, dI)) (ci := 1) (v := .ref q4) (ty := .array .int) (C := RX1) (T := TX1) (N := 8) hx hb hts (fun _ h => List.mem_cons_of_mem _ (List.mem_append_right _ h)) tyX1 tyX1_ok nmX1 hown hK hP hD hS 0 rfl rfl 3 (by decide) (hts _ (List.mem_of_getElem? (i := 8) rfl)) (fun _ h9 => h9) rfl hin rfl (by decide +kernel) rfl rfl (Nat.le_of_ble_eq_true rfl) dX1_init_37 (fun H locs hP hD hS => ?_)
  have hP : va_P (dC, dI) vwCl ((((([(h0, .inr (1, [.ref q1, .ref q2, .ref q3, .ref q4, .null, .int 0, .int 0, .int 0]))] ++ [(q1, .inl (kI, 256, .inl (fun _ => 0)))]) ++ [(q2, .inl (kI, 256, .inl (fun _ => 0)))]) ++ [(q3, .inl (kI, 256, .inl (fun _ => 0)))]) ++ [(q4, .inl (kI, 256, .inl (fun _ => 0)))])) H := hP
  have hD : va_D A ((((([(h0, .inr (1, [.ref q1, .ref q2, .ref q3, .ref q4, .null, .int 0, .int 0, .int 0]))] ++ [(q1, .inl (kI, 256, .inl (fun _ => 0)))]) ++ [(q2, .inl (kI, 256, .inl (fun _ => 0)))]) ++ [(q3, .inl (kI, 256, .inl (fun _ => 0)))]) ++ [(q4, .inl (kI, 256, .inl (fun _ => 0)))])) := hD
  refine lv_aload_n hx hb dX1_init_40 rfl (lv_at hl 0 rfl) ?_
  refine lv_sipush (v := 256) hx hb dX1_init_41 (by decide) ?_
  refine va_newa (atype := .int) (ty := .int) (N' := 256) (a0 := (256, .inl (fun _ => 0))) hx hb (hts _ (List.mem_of_getElem? (i := 4) rfl)) rfl hK hP hD hS hA (fun _ => rfl) (by decide) (by decide) (Nat.le_of_ble_eq_true rfl) (Nat.le_of_ble_eq_true rfl) (Nat.le_of_ble_eq_true rfl) dX1_init_44 (fun q5 cA H hK2 hP hD hS => ?_)
  have eK : kI = cA := K_same hK2 0 1 rfl rfl (fun _ h => nomatch h)
  subst eK
  have hP : va_P (dC, dI) vwCl (((((([(h0, .inr (1, [.ref q1, .ref q2, .ref q3, .ref q4, .null, .int 0, .int 0, .int 0]))] ++ [(q1, .inl (kI, 256, .inl (fun _ => 0)))]) ++ [(q2, .inl (kI, 256, .inl (fun _ => 0)))]) ++ [(q3, .inl (kI, 256, .inl (fun _ => 0)))]) ++ [(q4, .inl (kI, 256, .inl (fun _ => 0)))]) ++ [(q5, .inl (kI, 256, .inl (fun _ => 0)))])) H := hP
  have hD : va_D A (((((([(h0, .inr (1, [.ref q1, .ref q2, .ref q3, .ref q4, .null, .int 0, .int 0, .int 0]))] ++ [(q1, .inl (kI, 256, .inl (fun _ => 0)))]) ++ [(q2, .inl (kI, 256, .inl (fun _ => 0)))]) ++ [(q3, .inl (kI, 256, .inl (fun _ => 0)))]) ++ [(q4, .inl (kI, 256, .inl (fun _ => 0)))]) ++ [(q5, .inl (kI, 256, .inl (fun _ => 0)))])) := hD
  refine W.widen (k := 5) (n := 1280) (Nat.le_of_ble_eq_true rfl) (Nat.le_of_ble_eq_true rfl) ?_
  refine va_putF (D := (dC, dI)) (ci := 1) (v := .ref q5) (ty := .array .int) (C := RX1) (T := TX1) (N := 8) hx hb hts (fun _ h => List.mem_cons_of_mem _ (List.mem_append_right _ h)) tyX1 tyX1_ok nmX1 hown hK hP hD hS 0 rfl rfl 4 (by decide) (hts _ (List.mem_of_getElem? (i := 9) rfl)) (fun _ h9 => h9) rfl hin rfl (by decide +kernel) rfl rfl (Nat.le_of_ble_eq_true rfl) dX1_init_46 (fun H locs hP hD hS => ?_)
  have hP : va_P (dC, dI) vwCl (((((([(h0, .inr (1, [.ref q1, .ref q2, .ref q3, .ref q4, .ref q5, .int 0, .int 0, .int 0]))] ++ [(q1, .inl (kI, 256, .inl (fun _ => 0)))]) ++ [(q2, .inl (kI, 256, .inl (fun _ => 0)))]) ++ [(q3, .inl (kI, 256, .inl (fun _ => 0)))]) ++ [(q4, .inl (kI, 256, .inl (fun _ => 0)))]) ++ [(q5, .inl (kI, 256, .inl (fun _ => 0)))])) H := hP
  have hD : va_D A (((((([(h0, .inr (1, [.ref q1, .ref q2, .ref q3, .ref q4, .ref q5, .int 0, .int 0, .int 0]))] ++ [(q1, .inl (kI, 256, .inl (fun _ => 0)))]) ++ [(q2, .inl (kI, 256, .inl (fun _ => 0)))]) ++ [(q3, .inl (kI, 256, .inl (fun _ => 0)))]) ++ [(q4, .inl (kI, 256, .inl (fun _ => 0)))]) ++ [(q5, .inl (kI, 256, .inl (fun _ => 0)))])) := hD
  exact W.vret hx hb hr (fun t ht _ => ⟨⟨(), rfl, trivial, ⟨(fun i => [h0, q1, q2, q3, q4, q5].getD i 0), rfl, by rw [ht]; exact hP, hD⟩⟩, hS.F ht⟩) hS.2.2 dX1_init_49 hlocks
theorem qX2_init : (yX2_init.cls = RX2) ∧ yX2_init.cls ≠ "java/lang/invoke/MethodHandle" ∧ yX2_init.cls ≠ "java/lang/invoke/VarHandle" ∧ (parseMethodDescriptor yX2_init.desc).map (fun d => d.parameters.length) = some 0 := by decide +kernel
set_option maxHeartbeats 4000000 in
set_option maxRecDepth 100000 in
theorem k_X2 (l : Launch) (dC : Nat → ClassId) (dI : Nat → Nat → Nat) (kI : ClassId) (h0 sz : Nat) : Met l yX2_init wsX2_init ({ frames := 2, cells := 9, slots := 3288, locals := 32 }) (va_Pc [.ref h0] (RWp dC dI sz ([(h0, .inr (2, [.null, .int 0, .int 0, .int 0, .null, .int 0, .null, .null, .int 0, .int 0, .int 0, .int 0, .int 0, .int 0]))]) [(kI, .int)])) (ctQ (fun A t => ∃ a : Nat → Nat, ∃ b : Nat → Nat, a 0 = h0 ∧ va_P (dC, dI) vwCl (EWc a b kI (mkE (mkD (fun _ => 0) (fun _ => 0) (fun _ => 0) (fun _ => 0) (fun _ => 0) 0 0 0) 0 0 (-1) (fun _ => 0) 0 (fun _ => 0) (fun _ => 0) 0 0 0 0 0 0)) t.heap ∧ va_D A (EWc a b kI (mkE (mkD (fun _ => 0) (fun _ => 0) (fun _ => 0) (fun _ => 0) (fun _ => 0) 0 0 0) 0 0 (-1) (fun _ => 0) 0 (fun _ => 0) (fun _ => 0) 0 0 0 0 0 0))) (va_A ([(h0, .inr (2, [.null, .int 0, .int 0, .int 0, .null, .int 0, .null, .null, .int 0, .int 0, .int 0, .int 0, .int 0, .int 0]))]) sz)) 9 3288 (va_A ([(h0, .inr (2, [.null, .int 0, .int 0, .int 0, .null, .int 0, .null, .null, .int 0, .int 0, .int 0, .int 0, .int 0, .int 0]))]) sz) := by
  refine ct_start (cc := cX2_init) (maxL := 1) (ret := none) (by decide) rfl (Nat.le_of_ble_eq_true rfl) ?_
  intro p e s m args below meth c hx hb hr hml hown hts hlocks hNW hK hin A hA H locs ls hP hD hS hl
  have hown : s.vm.findClass RX2 = some m.cls := hown
  have hl : lv_has ls 1 [(0, .ref h0)] := hl
  refine lv_aload_n hx hb dX2_init_0 rfl (lv_at hl 0 rfl) ?_
  refine W.objInit hx hb hown (hts _ (List.mem_of_getElem? (i := 1) rfl)) (hts _ (List.mem_of_getElem? (i := 2) rfl)) (hts _ (List.mem_of_getElem? (i := 3) rfl)) rfl (by rw [hml]; exact hl.1) rfl dX2_init_1 (Nat.le_of_ble_eq_true rfl) (Nat.le_of_ble_eq_true rfl) ?_
  refine W.eq (g2 := F0 m 4 ls []) rfl ?_
  refine lv_aload_n hx hb dX2_init_4 rfl (lv_at hl 0 rfl) ?_
  refine va_new (ci := 1) (fs := [.null, .null, .null, .null, .null, .int 0, .int 0, .int 0]) (C := RX1) (T := TX1) (N := 8) hx hb hts (fun _ h => List.mem_cons_of_mem _ (List.mem_append_left _ (List.mem_append_right _ h))) tyX1 tyX1_ok hown (hts _ (List.mem_of_getElem? (i := 4) rfl)) (hts _ (List.mem_of_getElem? (i := 5) rfl)) (hts _ (List.mem_of_getElem? (i := 6) rfl)) hK hP hD hS hA rfl dvX1 (Nat.le_of_ble_eq_true rfl) (Nat.le_of_ble_eq_true rfl) dX2_init_5 (fun q1 H hP hD hS => ?_)
  have hP : va_P (dC, dI) vwCl (([(h0, .inr (2, [.null, .int 0, .int 0, .int 0, .null, .int 0, .null, .null, .int 0, .int 0, .int 0, .int 0, .int 0, .int 0]))] ++ [(q1, .inr (1, [.null, .null, .null, .null, .null, .int 0, .int 0, .int 0]))])) H := hP
  have hD : va_D A (([(h0, .inr (2, [.null, .int 0, .int 0, .int 0, .null, .int 0, .null, .null, .int 0, .int 0, .int 0, .int 0, .int 0, .int 0]))] ++ [(q1, .inr (1, [.null, .null, .null, .null, .null, .int 0, .int 0, .int 0]))])) := hD
  refine W.widen (k := 1) (n := 8) (Nat.le_of_ble_eq_true rfl) (Nat.le_of_ble_eq_true rfl) ?_
  refine lv_dup hx hb dX2_init_8 rfl ?_
  refine ctIN (As := []) (rest := [.ref q1, .ref h0]) (wr := [(h0, .inr (2, [.null, .int 0, .int 0, .int 0, .null, .int 0, .null, .null, .int 0, .int 0, .int 0, .int 0, .int 0, .int 0]))]) hx hb hml hown hts (k_X1 l dC dI kI q1 H.size) gX2_init_X1_init_n11 qX1_init rfl ⟨(Nat.le_of_ble_eq_true rfl), (Nat.le_of_ble_eq_true rfl)⟩ ⟨rfl, rfl⟩ (hNW.use0 (i := 47) rfl) rfl (hts _ (List.mem_of_getElem? (i := 6) rfl)) (hts _ (List.mem_of_getElem? (i := 13) rfl)) hNW (hK.sub (tys' := [(kI, .int)]) [0] rfl) hP hD hS hA hl.1 rfl rfl (Nat.le_of_ble_eq_true rfl) dX2_init_9 ⟨(Nat.le_of_ble_eq_true rfl), (Nat.le_of_ble_eq_true rfl)⟩ (fun t H locs ht hvm hB hmix hS => ?_)
  obtain ⟨b_2, e0, hP1, hD1⟩ := hB
  rw [ht] at hP1
  obtain ⟨hP, hD⟩ := hmix _ hP1 hD1
  have hP : va_P (dC, dI) vwCl (([(h0, .inr (2, [.null, .int 0, .int 0, .int 0, .null, .int 0, .null, .null, .int 0, .int 0, .int 0, .int 0, .int 0, .int 0]))] ++ (DWc b_2 kI (mkD (fun _ => 0) (fun _ => 0) (fun _ => 0) (fun _ => 0) (fun _ => 0) 0 0 0)))) H := hP
  have hD : va_D A (([(h0, .inr (2, [.null, .int 0, .int 0, .int 0, .null, .int 0, .null, .null, .int 0, .int 0, .int 0, .int 0, .int 0, .int 0]))] ++ (DWc b_2 kI (mkD (fun _ => 0) (fun _ => 0) (fun _ => 0) (fun _ => 0) (fun _ => 0) 0 0 0)))) := hD
  refine W.widen (k := 6) (n := 1288) (Nat.le_of_ble_eq_true rfl) (Nat.le_of_ble_eq_true rfl) ?_
  have e0 : q1 = b_2 0 := e0.symm
  rw [e0]
  refine va_putF (D := (dC, dI)) (ci := 2) (v := .ref (b_2 0)) (ty := .object "LzwCodec$Dictionary") (C := RX2) (T := TX2) (N := 14) hx hb hts (fun _ h => List.mem_cons_of_mem _ (List.mem_append_right _ h)) tyX2 tyX2_ok nmX2 hown hK hP hD hS 0 rfl rfl 0 (by decide) (hts _ (List.mem_of_getElem? (i := 7) rfl)) (fun _ h9 => h9) rfl hin rfl (by decide +kernel) rfl rfl (Nat.le_of_ble_eq_true rfl) dX2_init_12 (fun H locs hP hD hS => ?_)
  have hP : va_P (dC, dI) vwCl (([(h0, .inr (2, [.ref (b_2 0), .int 0, .int 0, .int 0, .null, .int 0, .null, .null, .int 0, .int 0, .int 0, .int 0, .int 0, .int 0]))] ++ (DWc b_2 kI (mkD (fun _ => 0) (fun _ => 0) (fun _ => 0) (fun _ => 0) (fun _ => 0) 0 0 0)))) H := hP
  have hD : va_D A (([(h0, .inr (2, [.ref (b_2 0), .int 0, .int 0, .int 0, .null, .int 0, .null, .null, .int 0, .int 0, .int 0, .int 0, .int 0, .int 0]))] ++ (DWc b_2 kI (mkD (fun _ => 0) (fun _ => 0) (fun _ => 0) (fun _ => 0) (fun _ => 0) 0 0 0)))) := hD
  refine lv_aload_n hx hb dX2_init_15 rfl (lv_at hl 0 rfl) ?_
  refine lv_iconst (v := -1) hx hb dX2_init_16 (by decide) ?_
  refine va_put (D := (dC, dI)) (ci := 2) (v := .int (-1)) (ty := .int) (C := RX2) (T := TX2) (N := 14) hx hb hts (fun _ h => List.mem_cons_of_mem _ (List.mem_append_right _ h)) tyX2 tyX2_ok nmX2 hown hK hP hD hS 0 rfl rfl 3 (by decide) (hts _ (List.mem_of_getElem? (i := 8) rfl)) (fun _ h9 => h9) rfl (by decide +kernel) rfl rfl (Nat.le_of_ble_eq_true rfl) dX2_init_17 (fun H locs hP hD hS => ?_)
  have hP : va_P (dC, dI) vwCl (([(h0, .inr (2, [.ref (b_2 0), .int 0, .int 0, .int (-1), .null, .int 0, .null, .null, .int 0, .int 0, .int 0, .int 0, .int 0, .int 0]))] ++ (DWc b_2 kI (mkD (fun _ => 0) (fun _ => 0) (fun _ => 0) (fun _ => 0) (fun _ => 0) 0 0 0)))) H := hP
  have hD : va_D A (([(h0, .inr (2, [.ref (b_2 0), .int 0, .int 0, .int (-1), .null, .int 0, .null, .null, .int 0, .int 0, .int 0, .int 0, .int 0, .int 0]))] ++ (DWc b_2 kI (mkD (fun _ => 0) (fun _ => 0) (fun _ => 0) (fun _ => 0) (fun _ => 0) 0 0 0)))) := hD
  refine lv_aload_n hx hb dX2_init_20 rfl (lv_at hl 0 rfl) ?_
  refine lv_sipush (v := 400) hx hb dX2_init_21 (by decide) ?_
  refine va_newa (atype := .int) (ty := .int) (N' := 400) (a0 := (400, .inl (fun _ => 0))) hx hb (hts _ (List.mem_of_getElem? (i := 9) rfl)) rfl hK hP hD hS hA (fun _ => rfl) (by decide) (by decide) (Nat.le_of_ble_eq_true rfl) (Nat.le_of_ble_eq_true rfl) (Nat.le_of_ble_eq_true rfl) dX2_init_24 (fun q3 cA H hK2 hP hD hS => ?_)
  have eK : kI = cA := K_same hK2 0 1 rfl rfl (fun _ h => nomatch h)
  subst eK
  have hP : va_P (dC, dI) vwCl ((([(h0, .inr (2, [.ref (b_2 0), .int 0, .int 0, .int (-1), .null, .int 0, .null, .null, .int 0, .int 0, .int 0, .int 0, .int 0, .int 0]))] ++ (DWc b_2 kI (mkD (fun _ => 0) (fun _ => 0) (fun _ => 0) (fun _ => 0) (fun _ => 0) 0 0 0))) ++ [(q3, .inl (kI, 400, .inl (fun _ => 0)))])) H := hP
  have hD : va_D A ((([(h0, .inr (2, [.ref (b_2 0), .int 0, .int 0, .int (-1), .null, .int 0, .null, .null, .int 0, .int 0, .int 0, .int 0, .int 0, .int 0]))] ++ (DWc b_2 kI (mkD (fun _ => 0) (fun _ => 0) (fun _ => 0) (fun _ => 0) (fun _ => 0) 0 0 0))) ++ [(q3, .inl (kI, 400, .inl (fun _ => 0)))])) := hD
  refine W.widen (k := 7) (n := 1688) (Nat.le_of_ble_eq_true rfl) (Nat.le_of_ble_eq_true rfl) ?_
  refine va_putF (D := (dC, dI)) (ci := 2) (v := .ref q3) (ty := .array .int) (C := RX2) (T := TX2) (N := 14) hx hb hts (fun _ h => List.mem_cons_of_mem _ (List.mem_append_right _ h)) tyX2 tyX2_ok nmX2 hown hK hP hD hS 0 rfl rfl 4 (by decide) (hts _ (List.mem_of_getElem? (i := 10) rfl)) (fun _ h9 => h9) rfl hin rfl (by decide +kernel) rfl rfl (Nat.le_of_ble_eq_true rfl) dX2_init_26 (fun H locs hP hD hS => ?_)
  have hP : va_P (dC, dI) vwCl ((([(h0, .inr (2, [.ref (b_2 0), .int 0, .int 0, .int (-1), .ref q3, .int 0, .null, .null, .int 0, .int 0, .int 0, .int 0, .int 0, .int 0]))] ++ (DWc b_2 kI (mkD (fun _ => 0) (fun _ => 0) (fun _ => 0) (fun _ => 0) (fun _ => 0) 0 0 0))) ++ [(q3, .inl (kI, 400, .inl (fun _ => 0)))])) H := hP
  have hD : va_D A ((([(h0, .inr (2, [.ref (b_2 0), .int 0, .int 0, .int (-1), .ref q3, .int 0, .null, .null, .int 0, .int 0, .int 0, .int 0, .int 0, .int 0]))] ++ (DWc b_2 kI (mkD (fun _ => 0) (fun _ => 0) (fun _ => 0) (fun _ => 0) (fun _ => 0) 0 0 0))) ++ [(q3, .inl (kI, 400, .inl (fun _ => 0)))])) := hD
  refine lv_aload_n hx hb dX2_init_29 rfl (lv_at hl 0 rfl) ?_
  refine lv_sipush (v := 800) hx hb dX2_init_30 (by decide) ?_
  refine va_newa (atype := .int) (ty := .int) (N' := 800) (a0 := (800, .inl (fun _ => 0))) hx hb (hts _ (List.mem_of_getElem? (i := 9) rfl)) rfl hK hP hD hS hA (fun _ => rfl) (by decide) (by decide) (Nat.le_of_ble_eq_true rfl) (Nat.le_of_ble_eq_true rfl) (Nat.le_of_ble_eq_true rfl) dX2_init_33 (fun q4 cA H hK2 hP hD hS => ?_)
  have eK : kI = cA := K_same hK2 0 1 rfl rfl (fun _ h => nomatch h)
  subst eK
  have hP : va_P (dC, dI) vwCl (((([(h0, .inr (2, [.ref (b_2 0), .int 0, .int 0, .int (-1), .ref q3, .int 0, .null, .null, .int 0, .int 0, .int 0, .int 0, .int 0, .int 0]))] ++ (DWc b_2 kI (mkD (fun _ => 0) (fun _ => 0) (fun _ => 0) (fun _ => 0) (fun _ => 0) 0 0 0))) ++ [(q3, .inl (kI, 400, .inl (fun _ => 0)))]) ++ [(q4, .inl (kI, 800, .inl (fun _ => 0)))])) H := hP
  have hD : va_D A (((([(h0, .inr (2, [.ref (b_2 0), .int 0, .int 0, .int (-1), .ref q3, .int 0, .null, .null, .int 0, .int 0, .int 0, .int 0, .int 0, .int 0]))] ++ (DWc b_2 kI (mkD (fun _ => 0) (fun _ => 0) (fun _ => 0) (fun _ => 0) (fun _ => 0) 0 0 0))) ++ [(q3, .inl (kI, 400, .inl (fun _ => 0)))]) ++ [(q4, .inl (kI, 800, .inl (fun _ => 0)))])) := hD
  refine W.widen (k := 8) (n := 2488) (Nat.le_of_ble_eq_true rfl) (Nat.le_of_ble_eq_true rfl) ?_
  refine va_putF (D := (dC, dI)) (ci := 2) (v := .ref q4) (ty := .array .int) (C := RX2) (T := TX2) (N := 14) hx hb hts (fun _ h => List.mem_cons_of_mem _ (List.mem_append_right _ h)) tyX2 tyX2_ok nmX2 hown hK hP hD hS 0 rfl rfl 6 (by decide) (hts _ (List.mem_of_getElem? (i := 11) rfl)) (fun _ h9 => h9) rfl hin rfl (by decide +kernel) rfl rfl (Nat.le_of_ble_eq_true rfl) dX2_init_35 (fun H locs hP hD hS => ?_)
  have hP : va_P (dC, dI) vwCl (((([(h0, .inr (2, [.ref (b_2 0), .int 0, .int 0, .int (-1), .ref q3, .int 0, .ref q4, .null, .int 0, .int 0, .int 0, .int 0, .int 0, .int 0]))] ++ (DWc b_2 kI (mkD (fun _ => 0) (fun _ => 0) (fun _ => 0) (fun _ => 0) (fun _ => 0) 0 0 0))) ++ [(q3, .inl (kI, 400, .inl (fun _ => 0)))]) ++ [(q4, .inl (kI, 800, .inl (fun _ => 0)))])) H := hP
  have hD : va_D A (((([(h0, .inr (2, [.ref (b_2 0), .int 0, .int 0, .int (-1), .ref q3, .int 0, .ref q4, .null, .int 0, .int 0, .int 0, .int 0, .int 0, .int 0]))] ++ (DWc b_2 kI (mkD (fun _ => 0) (fun _ => 0) (fun _ => 0) (fun _ => 0) (fun _ => 0) 0 0 0))) ++ [(q3, .inl (kI, 400, .inl (fun _ => 0)))]) ++ [(q4, .inl (kI, 800, .inl (fun _ => 0)))])) := hD
  refine lv_aload_n hx hb dX2_init_38 rfl (lv_at hl 0 rfl) ?_
  refine lv_sipush (v := 800) hx hb dX2_init_39 (by decide) ?_
  refine va_newa (atype := .int) (ty := .int) (N' := 800) (a0 := (800, .inl (fun _ => 0))) hx hb (hts _ (List.mem_of_getElem? (i := 9) rfl)) rfl hK hP hD hS hA (fun _ => rfl) (by decide) (by decide) (Nat.le_of_ble_eq_true rfl) (Nat.le_of_ble_eq_true rfl) (Nat.le_of_ble_eq_true rfl) dX2_init_42 (fun q5 cA H hK2 hP hD hS => ?_)
  have eK : kI = cA := K_same hK2 0 1 rfl rfl (fun _ h => nomatch h)
  subst eK
  have hP : va_P (dC, dI) vwCl ((((([(h0, .inr (2, [.ref (b_2 0), .int 0, .int 0, .int (-1), .ref q3, .int 0, .ref q4, .null, .int 0, .int 0, .int 0, .int 0, .int 0, .int 0]))] ++ (DWc b_2 kI (mkD (fun _ => 0) (fun _ => 0) (fun _ => 0) (fun _ => 0) (fun _ => 0) 0 0 0))) ++ [(q3, .inl (kI, 400, .inl (fun _ => 0)))]) ++ [(q4, .inl (kI, 800, .inl (fun _ => 0)))]) ++ [(q5, .inl (kI, 800, .inl (fun _ => 0)))])) H := hP
  have hD : va_D A ((((([(h0, .inr (2, [.ref (b_2 0), .int 0, .int 0, .int (-1), .ref q3, .int 0, .ref q4, .null, .int 0, .int 0, .int 0, .int 0, .int 0, .int 0]))] ++ (DWc b_2 kI (mkD (fun _ => 0) (fun _ => 0) (fun _ => 0) (fun _ => 0) (fun _ => 0) 0 0 0))) ++ [(q3, .inl (kI, 400, .inl (fun _ => 0)))]) ++ [(q4, .inl (kI, 800, .inl (fun _ => 0)))]) ++ [(q5, .inl (kI, 800, .inl (fun _ => 0)))])) := hD
  refine W.widen (k := 9) (n := 3288) (Nat.le_of_ble_eq_true rfl) (Nat.le_of_ble_eq_true rfl) ?_
  refine va_putF (D := (dC, dI)) (ci := 2) (v := .ref q5) (ty := .array .int) (C := RX2) (T := TX2) (N := 14) hx hb hts (fun _ h => List.mem_cons_of_mem _ (List.mem_append_right _ h)) tyX2 tyX2_ok nmX2 hown hK hP hD hS 0 rfl rfl 7 (by decide) (hts _ (List.mem_of_getElem? (i := 12) rfl)) (fun _ h9 => h9) rfl hin rfl (by decide +kernel) rfl rfl (Nat.le_of_ble_eq_true rfl) dX2_init_44 (fun H locs hP hD hS => ?_)
  have hP : va_P (dC, dI) vwCl ((((([(h0, .inr (2, [.ref (b_2 0), .int 0, .int 0, .int (-1), .ref q3, .int 0, .ref q4, .ref q5, .int 0, .int 0, .int 0, .int 0, .int 0, .int 0]))] ++ (DWc b_2 kI (mkD (fun _ => 0) (fun _ => 0) (fun _ => 0) (fun _ => 0) (fun _ => 0) 0 0 0))) ++ [(q3, .inl (kI, 400, .inl (fun _ => 0)))]) ++ [(q4, .inl (kI, 800, .inl (fun _ => 0)))]) ++ [(q5, .inl (kI, 800, .inl (fun _ => 0)))])) H := hP
  have hD : va_D A ((((([(h0, .inr (2, [.ref (b_2 0), .int 0, .int 0, .int (-1), .ref q3, .int 0, .ref q4, .ref q5, .int 0, .int 0, .int 0, .int 0, .int 0, .int 0]))] ++ (DWc b_2 kI (mkD (fun _ => 0) (fun _ => 0) (fun _ => 0) (fun _ => 0) (fun _ => 0) 0 0 0))) ++ [(q3, .inl (kI, 400, .inl (fun _ => 0)))]) ++ [(q4, .inl (kI, 800, .inl (fun _ => 0)))]) ++ [(q5, .inl (kI, 800, .inl (fun _ => 0)))])) := hD
  exact W.vret hx hb hr (fun t ht _ => ⟨⟨(), rfl, trivial, ⟨(fun i => [h0, q3, q4, q5].getD i 0), b_2, rfl, by rw [ht]; exact hP.sub [0, 7, 8, 9, 1, 2, 3, 4, 5, 6] rfl, hD.sub [0, 7, 8, 9, 1, 2, 3, 4, 5, 6] (by decide) rfl⟩⟩, hS.F ht⟩) hS.2.2 dX2_init_47 hlocks
theorem qX0_init : (yX0_init.cls = RX0) ∧ yX0_init.cls ≠ "java/lang/invoke/MethodHandle" ∧ yX0_init.cls ≠ "java/lang/invoke/VarHandle" ∧ (parseMethodDescriptor yX0_init.desc).map (fun d => d.parameters.length) = some 0 := by decide +kernel
set_option maxHeartbeats 4000000 in
set_option maxRecDepth 100000 in
theorem k_X0 (l : Launch) (dC : Nat → ClassId) (dI : Nat → Nat → Nat) (kI : ClassId) (h0 sz : Nat) : Met l yX0_init wsX0_init ({ frames := 2, cells := 7, slots := 1688, locals := 32 }) (va_Pc [.ref h0] (RWp dC dI sz ([(h0, .inr (0, [.null, .int 0, .null, .int 0]))]) [(kI, .int)])) (ctQ (fun A t => ∃ a : Nat → Nat, ∃ b : Nat → Nat, a 0 = h0 ∧ va_P (dC, dI) vwCl (OWc a b kI (mkO (mkD (fun _ => 0) (fun _ => 0) (fun _ => 0) (fun _ => 0) (fun _ => 0) 0 0 0) (-1) (fun _ => 0) 0)) t.heap ∧ va_D A (OWc a b kI (mkO (mkD (fun _ => 0) (fun _ => 0) (fun _ => 0) (fun _ => 0) (fun _ => 0) 0 0 0) (-1) (fun _ => 0) 0))) (va_A ([(h0, .inr (0, [.null, .int 0, .null, .int 0]))]) sz)) 7 1688 (va_A ([(h0, .inr (0, [.null, .int 0, .null, .int 0]))]) sz) := by
  refine ct_start (cc := cX0_init) (maxL := 1) (ret := none) (by decide) rfl (Nat.le_of_ble_eq_true rfl) ?_
  intro p e s m args below meth c hx hb hr hml hown hts hlocks hNW hK hin A hA H locs ls hP hD hS hl
  have hown : s.vm.findClass RX0 = some m.cls := hown
  have hl : lv_has ls 1 [(0, .ref h0)] := hl
  refine lv_aload_n hx hb dX0_init_0 rfl (lv_at hl 0 rfl) ?_
  refine W.objInit hx hb hown (hts _ (List.mem_of_getElem? (i := 1) rfl)) (hts _ (List.mem_of_getElem? (i := 2) rfl)) (hts _ (List.mem_of_getElem? (i := 3) rfl)) rfl (by rw [hml]; exact hl.1) rfl dX0_init_1 (Nat.le_of_ble_eq_true rfl) (Nat.le_of_ble_eq_true rfl) ?_
  refine W.eq (g2 := F0 m 4 ls []) rfl ?_
  refine lv_aload_n hx hb dX0_init_4 rfl (lv_at hl 0 rfl) ?_
  refine va_new (ci := 1) (fs := [.null, .null, .null, .null, .null, .int 0, .int 0, .int 0]) (C := RX1) (T := TX1) (N := 8) hx hb hts (fun _ h => List.mem_cons_of_mem _ (List.mem_append_left _ (List.mem_append_right _ h))) tyX1 tyX1_ok hown (hts _ (List.mem_of_getElem? (i := 4) rfl)) (hts _ (List.mem_of_getElem? (i := 5) rfl)) (hts _ (List.mem_of_getElem? (i := 6) rfl)) hK hP hD hS hA rfl dvX1 (Nat.le_of_ble_eq_true rfl) (Nat.le_of_ble_eq_true rfl) dX0_init_5 (fun q1 H hP hD hS => ?_)
  have hP : va_P (dC, dI) vwCl (([(h0, .inr (0, [.null, .int 0, .null, .int 0]))] ++ [(q1, .inr (1, [.null, .null, .null, .null, .null, .int 0, .int 0, .int 0]))])) H := hP
  have hD : va_D A (([(h0, .inr (0, [.null, .int 0, .null, .int 0]))] ++ [(q1, .inr (1, [.null, .null, .null, .null, .null, .int 0, .int 0, .int 0]))])) := hD
  refine W.widen (k := 1) (n := 8) (Nat.le_of_ble_eq_true rfl) (Nat.le_of_ble_eq_true rfl) ?_
  refine lv_dup hx hb dX0_init_8 rfl ?_
  refine ctIN (As := []) (rest := [.ref q1, .ref h0]) (wr := [(h0, .inr (0, [.null, .int 0, .null, .int 0]))]) hx hb hml hown hts (k_X1 l dC dI kI q1 H.size) gX0_init_X1_init_n11 qX1_init rfl ⟨(Nat.le_of_ble_eq_true rfl), (Nat.le_of_ble_eq_true rfl)⟩ ⟨rfl, rfl⟩ (hNW.use0 (i := 50) rfl) rfl (hts _ (List.mem_of_getElem? (i := 6) rfl)) (hts _ (List.mem_of_getElem? (i := 11) rfl)) hNW (hK.sub (tys' := [(kI, .int)]) [0] rfl) hP hD hS hA hl.1 rfl rfl (Nat.le_of_ble_eq_true rfl) dX0_init_9 ⟨(Nat.le_of_ble_eq_true rfl), (Nat.le_of_ble_eq_true rfl)⟩ (fun t H locs ht hvm hB hmix hS => ?_)
  obtain ⟨b_2, e0, hP1, hD1⟩ := hB
  rw [ht] at hP1
  obtain ⟨hP, hD⟩ := hmix _ hP1 hD1
  have hP : va_P (dC, dI) vwCl (([(h0, .inr (0, [.null, .int 0, .null, .int 0]))] ++ (DWc b_2 kI (mkD (fun _ => 0) (fun _ => 0) (fun _ => 0) (fun _ => 0) (fun _ => 0) 0 0 0)))) H := hP
  have hD : va_D A (([(h0, .inr (0, [.null, .int 0, .null, .int 0]))] ++ (DWc b_2 kI (mkD (fun _ => 0) (fun _ => 0) (fun _ => 0) (fun _ => 0) (fun _ => 0) 0 0 0)))) := hD
  refine W.widen (k := 6) (n := 1288) (Nat.le_of_ble_eq_true rfl) (Nat.le_of_ble_eq_true rfl) ?_
  have e0 : q1 = b_2 0 := e0.symm
  rw [e0]
  refine va_putF (D := (dC, dI)) (ci := 0) (v := .ref (b_2 0)) (ty := .object "LzwCodec$Dictionary") (C := RX0) (T := TX0) (N := 4) hx hb hts (fun _ h => List.mem_cons_of_mem _ (List.mem_append_right _ h)) tyX0 tyX0_ok nmX0 hown hK hP hD hS 0 rfl rfl 0 (by decide) (hts _ (List.mem_of_getElem? (i := 7) rfl)) (fun _ h9 => h9) rfl hin rfl (by decide +kernel) rfl rfl (Nat.le_of_ble_eq_true rfl) dX0_init_12 (fun H locs hP hD hS => ?_)
  have hP : va_P (dC, dI) vwCl (([(h0, .inr (0, [.ref (b_2 0), .int 0, .null, .int 0]))] ++ (DWc b_2 kI (mkD (fun _ => 0) (fun _ => 0) (fun _ => 0) (fun _ => 0) (fun _ => 0) 0 0 0)))) H := hP
  have hD : va_D A (([(h0, .inr (0, [.ref (b_2 0), .int 0, .null, .int 0]))] ++ (DWc b_2 kI (mkD (fun _ => 0) (fun _ => 0) (fun _ => 0) (fun _ => 0) (fun _ => 0) 0 0 0)))) := hD
  refine lv_aload_n hx hb dX0_init_15 rfl (lv_at hl 0 rfl) ?_
  refine lv_iconst (v := -1) hx hb dX0_init_16 (by decide) ?_
  refine va_put (D := (dC, dI)) (ci := 0) (v := .int (-1)) (ty := .int) (C := RX0) (T := TX0) (N := 4) hx hb hts (fun _ h => List.mem_cons_of_mem _ (List.mem_append_right _ h)) tyX0 tyX0_ok nmX0 hown hK hP hD hS 0 rfl rfl 1 (by decide) (hts _ (List.mem_of_getElem? (i := 8) rfl)) (fun _ h9 => h9) rfl (by decide +kernel) rfl rfl (Nat.le_of_ble_eq_true rfl) dX0_init_17 (fun H locs hP hD hS => ?_)
  have hP : va_P (dC, dI) vwCl (([(h0, .inr (0, [.ref (b_2 0), .int (-1), .null, .int 0]))] ++ (DWc b_2 kI (mkD (fun _ => 0) (fun _ => 0) (fun _ => 0) (fun _ => 0) (fun _ => 0) 0 0 0)))) H := hP
  have hD : va_D A (([(h0, .inr (0, [.ref (b_2 0), .int (-1), .null, .int 0]))] ++ (DWc b_2 kI (mkD (fun _ => 0) (fun _ => 0) (fun _ => 0) (fun _ => 0) (fun _ => 0) 0 0 0)))) := hD
  refine lv_aload_n hx hb dX0_init_20 rfl (lv_at hl 0 rfl) ?_
  refine lv_sipush (v := 400) hx hb dX0_init_21 (by decide) ?_
  refine va_newa (atype := .int) (ty := .int) (N' := 400) (a0 := (400, .inl (fun _ => 0))) hx hb (hts _ (List.mem_of_getElem? (i := 9) rfl)) rfl hK hP hD hS hA (fun _ => rfl) (by decide) (by decide) (Nat.le_of_ble_eq_true rfl) (Nat.le_of_ble_eq_true rfl) (Nat.le_of_ble_eq_true rfl) dX0_init_24 (fun q3 cA H hK2 hP hD hS => ?_)
  have eK : kI = cA := K_same hK2 0 1 rfl rfl (fun _ h => nomatch h)
  subst eK
  have hP : va_P (dC, dI) vwCl ((([(h0, .inr (0, [.ref (b_2 0), .int (-1), .null, .int 0]))] ++ (DWc b_2 kI (mkD (fun _ => 0) (fun _ => 0) (fun _ => 0) (fun _ => 0) (fun _ => 0) 0 0 0))) ++ [(q3, .inl (kI, 400, .inl (fun _ => 0)))])) H := hP
  have hD : va_D A ((([(h0, .inr (0, [.ref (b_2 0), .int (-1), .null, .int 0]))] ++ (DWc b_2 kI (mkD (fun _ => 0) (fun _ => 0) (fun _ => 0) (fun _ => 0) (fun _ => 0) 0 0 0))) ++ [(q3, .inl (kI, 400, .inl (fun _ => 0)))])) := hD
  refine W.widen (k := 7) (n := 1688) (Nat.le_of_ble_eq_true rfl) (Nat.le_of_ble_eq_true rfl) ?_
  refine va_putF (D := (dC, dI)) (ci := 0) (v := .ref q3) (ty := .array .int) (C := RX0) (T := TX0) (N := 4) hx hb hts (fun _ h => List.mem_cons_of_mem _ (List.mem_append_right _ h)) tyX0 tyX0_ok nmX0 hown hK hP hD hS 0 rfl rfl 2 (by decide) (hts _ (List.mem_of_getElem? (i := 10) rfl)) (fun _ h9 => h9) rfl hin rfl (by decide +kernel) rfl rfl (Nat.le_of_ble_eq_true rfl) dX0_init_26 (fun H locs hP hD hS => ?_)
  have hP : va_P (dC, dI) vwCl ((([(h0, .inr (0, [.ref (b_2 0), .int (-1), .ref q3, .int 0]))] ++ (DWc b_2 kI (mkD (fun _ => 0) (fun _ => 0) (fun _ => 0) (fun _ => 0) (fun _ => 0) 0 0 0))) ++ [(q3, .inl (kI, 400, .inl (fun _ => 0)))])) H := hP
  have hD : va_D A ((([(h0, .inr (0, [.ref (b_2 0), .int (-1), .ref q3, .int 0]))] ++ (DWc b_2 kI (mkD (fun _ => 0) (fun _ => 0) (fun _ => 0) (fun _ => 0) (fun _ => 0) 0 0 0))) ++ [(q3, .inl (kI, 400, .inl (fun _ => 0)))])) := hD
  exact W.vret hx hb hr (fun t ht _ => ⟨⟨(), rfl, trivial, ⟨(fun i => [h0, q3].getD i 0), b_2, rfl, by rw [ht]; exact hP.sub [0, 7, 1, 2, 3, 4, 5, 6] rfl, hD.sub [0, 7, 1, 2, 3, 4, 5, 6] (by decide) rfl⟩⟩, hS.F ht⟩) hS.2.2 dX0_init_29 hlocks
theorem qX4_init : (yX4_init.cls = RX4) ∧ yX4_init.cls ≠ "java/lang/invoke/MethodHandle" ∧ yX4_init.cls ≠ "java/lang/invoke/VarHandle" ∧ (parseMethodDescriptor yX4_init.desc).map (fun d => d.parameters.length) = some 0 := by decide +kernel
set_option maxHeartbeats 4000000 in
set_option maxRecDepth 100000 in
theorem k_X4 (l : Launch) (dC : Nat → ClassId) (dI : Nat → Nat → Nat) (kI : ClassId) (h0 sz : Nat) : Met l yX4_init wsX4_init ({ frames := 1, cells := 1, slots := 400, locals := 12 }) (va_Pc [.ref h0] (RWp dC dI sz ([(h0, .inr (4, [.int 0, .int 0, .int 0, .int 0, .null, .int 0]))]) [(kI, .int)])) (ctQ (fun A t => ∃ a : Nat → Nat, a 0 = h0 ∧ va_P (dC, dI) vwCl (RWc a kI (mkR 0 0 0 0 (fun _ => 0) 0)) t.heap ∧ va_D A (RWc a kI (mkR 0 0 0 0 (fun _ => 0) 0))) (va_A ([(h0, .inr (4, [.int 0, .int 0, .int 0, .int 0, .null, .int 0]))]) sz)) 1 400 (va_A ([(h0, .inr (4, [.int 0, .int 0, .int 0, .int 0, .null, .int 0]))]) sz) := by
  refine ct_start (cc := cX4_init) (maxL := 1) (ret := none) (by decide) rfl (Nat.le_of_ble_eq_true rfl) ?_
  intro p e s m args below meth c hx hb hr hml hown hts hlocks hNW hK hin A hA H locs ls hP hD hS hl
  have hown : s.vm.findClass RX4 = some m.cls := hown
  have hl : lv_has ls 1 [(0, .ref h0)] := hl
  refine lv_aload_n hx hb dX4_init_0 rfl (lv_at hl 0 rfl) ?_
  refine W.objInit hx hb hown (hts _ (List.mem_of_getElem? (i := 1) rfl)) (hts _ (List.mem_of_getElem? (i := 2) rfl)) (hts _ (List.mem_of_getElem? (i := 3) rfl)) rfl (by rw [hml]; exact hl.1) rfl dX4_init_1 (Nat.le_of_ble_eq_true rfl) (Nat.le_of_ble_eq_true rfl) ?_
  refine W.eq (g2 := F0 m 4 ls []) rfl ?_
  refine lv_aload_n hx hb dX4_init_4 rfl (lv_at hl 0 rfl) ?_
  refine lv_sipush (v := 400) hx hb dX4_init_5 (by decide) ?_
  refine va_newa (atype := .int) (ty := .int) (N' := 400) (a0 := (400, .inl (fun _ => 0))) hx hb (hts _ (List.mem_of_getElem? (i := 4) rfl)) rfl hK hP hD hS hA (fun _ => rfl) (by decide) (by decide) (Nat.le_of_ble_eq_true rfl) (Nat.le_of_ble_eq_true rfl) (Nat.le_of_ble_eq_true rfl) dX4_init_8 (fun q1 cA H hK2 hP hD hS => ?_)
  have eK : kI = cA := K_same hK2 0 1 rfl rfl (fun _ h => nomatch h)
  subst eK
  have hP : va_P (dC, dI) vwCl (([(h0, .inr (4, [.int 0, .int 0, .int 0, .int 0, .null, .int 0]))] ++ [(q1, .inl (kI, 400, .inl (fun _ => 0)))])) H := hP
  have hD : va_D A (([(h0, .inr (4, [.int 0, .int 0, .int 0, .int 0, .null, .int 0]))] ++ [(q1, .inl (kI, 400, .inl (fun _ => 0)))])) := hD
  refine W.widen (k := 1) (n := 400) (Nat.le_of_ble_eq_true rfl) (Nat.le_of_ble_eq_true rfl) ?_
  refine va_putF (D := (dC, dI)) (ci := 4) (v := .ref q1) (ty := .array .int) (C := RX4) (T := TX4) (N := 6) hx hb hts (fun _ h => List.mem_cons_of_mem _ (List.mem_append_right _ h)) tyX4 tyX4_ok nmX4 hown hK hP hD hS 0 rfl rfl 4 (by decide) (hts _ (List.mem_of_getElem? (i := 5) rfl)) (fun _ h9 => h9) rfl hin rfl (by decide +kernel) rfl rfl (Nat.le_of_ble_eq_true rfl) dX4_init_10 (fun H locs hP hD hS => ?_)
  have hP : va_P (dC, dI) vwCl (([(h0, .inr (4, [.int 0, .int 0, .int 0, .int 0, .ref q1, .int 0]))] ++ [(q1, .inl (kI, 400, .inl (fun _ => 0)))])) H := hP
  have hD : va_D A (([(h0, .inr (4, [.int 0, .int 0, .int 0, .int 0, .ref q1, .int 0]))] ++ [(q1, .inl (kI, 400, .inl (fun _ => 0)))])) := hD
  exact W.vret hx hb hr (fun t ht _ => ⟨⟨(), rfl, trivial, ⟨(fun i => [h0, q1].getD i 0), rfl, by rw [ht]; exact hP, hD⟩⟩, hS.F ht⟩) hS.2.2 dX4_init_13 hlocks
theorem qX5_init : (yX5_init.cls = RX5) ∧ yX5_init.cls ≠ "java/lang/invoke/MethodHandle" ∧ yX5_init.cls ≠ "java/lang/invoke/VarHandle" ∧ (parseMethodDescriptor yX5_init.desc).map (fun d => d.parameters.length) = some 0 := by decide +kernel
set_option maxHeartbeats 4000000 in
set_option maxRecDepth 100000 in
theorem k_X5 (l : Launch) (dC : Nat → ClassId) (dI : Nat → Nat → Nat) (kI : ClassId) (h0 sz : Nat) : Met l yX5_init wsX5_init ({ frames := 1, cells := 1, slots := 429, locals := 12 }) (va_Pc [.ref h0] (RWp dC dI sz ([(h0, .inr (5, [.null, .int 0]))]) [(kI, .int)])) (ctQ (fun A t => ∃ a : Nat → Nat, a 0 = h0 ∧ va_P (dC, dI) vwCl (SWc a kI (mkS (fun _ => 0) 0)) t.heap ∧ va_D A (SWc a kI (mkS (fun _ => 0) 0))) (va_A ([(h0, .inr (5, [.null, .int 0]))]) sz)) 1 429 (va_A ([(h0, .inr (5, [.null, .int 0]))]) sz) := by
  refine ct_start (cc := cX5_init) (maxL := 1) (ret := none) (by decide) rfl (Nat.le_of_ble_eq_true rfl) ?_
  intro p e s m args below meth c hx hb hr hml hown hts hlocks hNW hK hin A hA H locs ls hP hD hS hl
  have hown : s.vm.findClass RX5 = some m.cls := hown
  have hl : lv_has ls 1 [(0, .ref h0)] := hl
  refine lv_aload_n hx hb dX5_init_0 rfl (lv_at hl 0 rfl) ?_
  refine W.objInit hx hb hown (hts _ (List.mem_of_getElem? (i := 1) rfl)) (hts _ (List.mem_of_getElem? (i := 2) rfl)) (hts _ (List.mem_of_getElem? (i := 3) rfl)) rfl (by rw [hml]; exact hl.1) rfl dX5_init_1 (Nat.le_of_ble_eq_true rfl) (Nat.le_of_ble_eq_true rfl) ?_
  refine W.eq (g2 := F0 m 4 ls []) rfl ?_
  refine lv_aload_n hx hb dX5_init_4 rfl (lv_at hl 0 rfl) ?_
  refine lv_sipush (v := 429) hx hb dX5_init_5 (by decide) ?_
  refine va_newa (atype := .int) (ty := .int) (N' := 429) (a0 := (429, .inl (fun _ => 0))) hx hb (hts _ (List.mem_of_getElem? (i := 4) rfl)) rfl hK hP hD hS hA (fun _ => rfl) (by decide) (by decide) (Nat.le_of_ble_eq_true rfl) (Nat.le_of_ble_eq_true rfl) (Nat.le_of_ble_eq_true rfl) dX5_init_8 (fun q1 cA H hK2 hP hD hS => ?_)
  have eK : kI = cA := K_same hK2 0 1 rfl rfl (fun _ h => nomatch h)
  subst eK
  have hP : va_P (dC, dI) vwCl (([(h0, .inr (5, [.null, .int 0]))] ++ [(q1, .inl (kI, 429, .inl (fun _ => 0)))])) H := hP
  have hD : va_D A (([(h0, .inr (5, [.null, .int 0]))] ++ [(q1, .inl (kI, 429, .inl (fun _ => 0)))])) := hD
  refine W.widen (k := 1) (n := 429) (Nat.le_of_ble_eq_true rfl) (Nat.le_of_ble_eq_true rfl) ?_
  refine va_putF (D := (dC, dI)) (ci := 5) (v := .ref q1) (ty := .array .int) (C := RX5) (T := TX5) (N := 2) hx hb hts (fun _ h => List.mem_cons_of_mem _ (List.mem_append_right _ h)) tyX5 tyX5_ok nmX5 hown hK hP hD hS 0 rfl rfl 0 (by decide) (hts _ (List.mem_of_getElem? (i := 5) rfl)) (fun _ h9 => h9) rfl hin rfl (by decide +kernel) rfl rfl (Nat.le_of_ble_eq_true rfl) dX5_init_10 (fun H locs hP hD hS => ?_)
  have hP : va_P (dC, dI) vwCl (([(h0, .inr (5, [.ref q1, .int 0]))] ++ [(q1, .inl (kI, 429, .inl (fun _ => 0)))])) H := hP
  have hD : va_D A (([(h0, .inr (5, [.ref q1, .int 0]))] ++ [(q1, .inl (kI, 429, .inl (fun _ => 0)))])) := hD
  exact W.vret hx hb hr (fun t ht _ => ⟨⟨(), rfl, trivial, ⟨(fun i => [h0, q1].getD i 0), rfl, by rw [ht]; exact hP, hD⟩⟩, hS.F ht⟩) hS.2.2 dX5_init_13 hlocks
theorem qX6_init : (yX6_init.cls = RX6) ∧ yX6_init.cls ≠ "java/lang/invoke/MethodHandle" ∧ yX6_init.cls ≠ "java/lang/invoke/VarHandle" ∧ (parseMethodDescriptor yX6_init.desc).map (fun d => d.parameters.length) = some 0 := by decide +kernel
set_option maxHeartbeats 4000000 in
set_option maxRecDepth 100000 in
theorem k_X6 (l : Launch) (dC : Nat → ClassId) (dI : Nat → Nat → Nat) (kI : ClassId) (h0 sz : Nat) : Met l yX6_init wsX6_init ({ frames := 1, cells := 1, slots := 0, locals := 12 }) (va_Pc [.ref h0] (RWp dC dI sz ([(h0, .inr (6, [.null, .int 0, .int 0, .int 0, .int 0]))]) [(kI, .int)])) (ctQ (fun A t => ∃ a : Nat → Nat, a 0 = h0 ∧ va_P (dC, dI) vwCl ([(a 0, .inr (6, [.ref (a 1), .int 0, .int 0, .int 0, .int 0])), (a 1, .inl (kI, 0, .inl (fun _ => 0)))]) t.heap ∧ va_D A ([(a 0, .inr (6, [.ref (a 1), .int 0, .int 0, .int 0, .int 0])), (a 1, .inl (kI, 0, .inl (fun _ => 0)))])) (va_A ([(h0, .inr (6, [.null, .int 0, .int 0, .int 0, .int 0]))]) sz)) 1 0 (va_A ([(h0, .inr (6, [.null, .int 0, .int 0, .int 0, .int 0]))]) sz) := by
  refine ct_start (cc := cX6_init) (maxL := 1) (ret := none) (by decide) rfl (Nat.le_of_ble_eq_true rfl) ?_
  intro p e s m args below meth c hx hb hr hml hown hts hlocks hNW hK hin A hA H locs ls hP hD hS hl
  have hown : s.vm.findClass RX6 = some m.cls := hown
  have hl : lv_has ls 1 [(0, .ref h0)] := hl
  refine lv_aload_n hx hb dX6_init_0 rfl (lv_at hl 0 rfl) ?_
  refine W.objInit hx hb hown (hts _ (List.mem_of_getElem? (i := 1) rfl)) (hts _ (List.mem_of_getElem? (i := 2) rfl)) (hts _ (List.mem_of_getElem? (i := 3) rfl)) rfl (by rw [hml]; exact hl.1) rfl dX6_init_1 (Nat.le_of_ble_eq_true rfl) (Nat.le_of_ble_eq_true rfl) ?_
  refine W.eq (g2 := F0 m 4 ls []) rfl ?_
  refine lv_aload_n hx hb dX6_init_4 rfl (lv_at hl 0 rfl) ?_
  refine lv_iconst (v := 0) hx hb dX6_init_5 (by decide) ?_
  refine va_newa (atype := .int) (ty := .int) (N' := 0) (a0 := (0, .inl (fun _ => 0))) hx hb (hts _ (List.mem_of_getElem? (i := 4) rfl)) rfl hK hP hD hS hA (fun _ => rfl) (by decide) (by decide) (Nat.le_of_ble_eq_true rfl) (Nat.le_of_ble_eq_true rfl) (Nat.le_of_ble_eq_true rfl) dX6_init_6 (fun q1 cA H hK2 hP hD hS => ?_)
  have eK : kI = cA := K_same hK2 0 1 rfl rfl (fun _ h => nomatch h)
  subst eK
  have hP : va_P (dC, dI) vwCl (([(h0, .inr (6, [.null, .int 0, .int 0, .int 0, .int 0]))] ++ [(q1, .inl (kI, 0, .inl (fun _ => 0)))])) H := hP
  have hD : va_D A (([(h0, .inr (6, [.null, .int 0, .int 0, .int 0, .int 0]))] ++ [(q1, .inl (kI, 0, .inl (fun _ => 0)))])) := hD
  refine W.widen (k := 1) (n := 0) (Nat.le_of_ble_eq_true rfl) (Nat.le_of_ble_eq_true rfl) ?_
  refine va_put (D := (dC, dI)) (ci := 6) (v := .ref q1) (ty := .array .int) (C := RX6) (T := TX6) (N := 5) hx hb hts (fun _ h => List.mem_cons_of_mem _ (List.mem_append_right _ h)) tyX6 tyX6_ok nmX6 hown hK hP hD hS 0 rfl rfl 0 (by decide) (hts _ (List.mem_of_getElem? (i := 5) rfl)) (fun _ h9 => h9) rfl (by decide +kernel) rfl rfl (Nat.le_of_ble_eq_true rfl) dX6_init_8 (fun H locs hP hD hS => ?_)
  have hP : va_P (dC, dI) vwCl (([(h0, .inr (6, [.ref q1, .int 0, .int 0, .int 0, .int 0]))] ++ [(q1, .inl (kI, 0, .inl (fun _ => 0)))])) H := hP
  have hD : va_D A (([(h0, .inr (6, [.ref q1, .int 0, .int 0, .int 0, .int 0]))] ++ [(q1, .inl (kI, 0, .inl (fun _ => 0)))])) := hD
  refine lv_aload_n hx hb dX6_init_11 rfl (lv_at hl 0 rfl) ?_
  refine lv_iconst (v := 0) hx hb dX6_init_12 (by decide) ?_
  refine va_put (D := (dC, dI)) (ci := 6) (v := .int 0) (ty := .int) (C := RX6) (T := TX6) (N := 5) hx hb hts (fun _ h => List.mem_cons_of_mem _ (List.mem_append_right _ h)) tyX6 tyX6_ok nmX6 hown hK hP hD hS 0 rfl rfl 2 (by decide) (hts _ (List.mem_of_getElem? (i := 6) rfl)) (fun _ h9 => h9) rfl (by decide +kernel) rfl rfl (Nat.le_of_ble_eq_true rfl) dX6_init_13 (fun H locs hP hD hS => ?_)
  have hP : va_P (dC, dI) vwCl (([(h0, .inr (6, [.ref q1, .int 0, .int 0, .int 0, .int 0]))] ++ [(q1, .inl (kI, 0, .inl (fun _ => 0)))])) H := hP
  have hD : va_D A (([(h0, .inr (6, [.ref q1, .int 0, .int 0, .int 0, .int 0]))] ++ [(q1, .inl (kI, 0, .inl (fun _ => 0)))])) := hD
  exact W.vret hx hb hr (fun t ht _ => ⟨⟨(), rfl, trivial, ⟨(fun i => [h0, q1].getD i 0), rfl, by rw [ht]; exact hP, hD⟩⟩, hS.F ht⟩) hS.2.2 dX6_init_16 hlocks
