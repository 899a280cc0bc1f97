/-! the law: its world, what holds of it between two steps -/
abbrev CS : Type := Int32 × Int32 × Int32 × (Nat → Int32) × (Nat → Int32) × ES × OS × TS × RS × SS × HS × Nat
abbrev CS.tl (x : CS) : Int32 := x.1
abbrev CS.er (x : CS) : Int32 := x.2.1
abbrev CS.dl (x : CS) : Int32 := x.2.2.1
abbrev CS.tp (x : CS) : Nat → Int32 := x.2.2.2.1
abbrev CS.fd (x : CS) : Nat → Int32 := x.2.2.2.2.1
abbrev CS.ee (x : CS) : ES := x.2.2.2.2.2.1
abbrev CS.oo (x : CS) : OS := x.2.2.2.2.2.2.1
abbrev CS.tt (x : CS) : TS := x.2.2.2.2.2.2.2.1
abbrev CS.rr (x : CS) : RS := x.2.2.2.2.2.2.2.2.1
abbrev CS.sw (x : CS) : SS := x.2.2.2.2.2.2.2.2.2.1
abbrev CS.hh (x : CS) : HS := x.2.2.2.2.2.2.2.2.2.2.1
abbrev CS.tx (x : CS) : Nat := x.2.2.2.2.2.2.2.2.2.2.2
abbrev MS : Type := (Nat → Int32) × Int32 × Int32 × Int32 × (Nat → Int32) × (Nat → Int32) × (Nat → Int32) × (Nat → Int32) × (Nat → Int32) × Int32 × (Nat → Int32) × (Nat → Int32) × Int32 × Int32 × (Nat → Int32) × Int32 × (Nat → Int32) × Int32 × Int32 × Int32 × Int32 × Int64 × Int32 × Int32 × Int32 × (Nat → Int32) × Int32
abbrev MS.v_tape (x : MS) : Nat → Int32 := x.1
abbrev MS.v_taped (x : MS) : Int32 := x.2.1
abbrev MS.v_errorAt (x : MS) : Int32 := x.2.2.1
abbrev MS.v_thrown (x : MS) : Int32 := x.2.2.2.1
abbrev MS.v_world (x : MS) : Nat → Int32 := x.2.2.2.2.1
abbrev MS.v_aside (x : MS) : Nat → Int32 := x.2.2.2.2.2.1
abbrev MS.v_undone (x : MS) : Nat → Int32 := x.2.2.2.2.2.2.1
abbrev MS.v_slots (x : MS) : Nat → Int32 := x.2.2.2.2.2.2.2.1
abbrev MS.v_isKept (x : MS) : Nat → Int32 := x.2.2.2.2.2.2.2.2.1
abbrev MS.v_undos (x : MS) : Int32 := x.2.2.2.2.2.2.2.2.2.1
abbrev MS.v_seenPrefix (x : MS) : Nat → Int32 := x.2.2.2.2.2.2.2.2.2.2.1
abbrev MS.v_seenLast (x : MS) : Nat → Int32 := x.2.2.2.2.2.2.2.2.2.2.2.1
abbrev MS.v_seen (x : MS) : Int32 := x.2.2.2.2.2.2.2.2.2.2.2.2.1
abbrev MS.v_previous (x : MS) : Int32 := x.2.2.2.2.2.2.2.2.2.2.2.2.2.1
abbrev MS.v_gained (x : MS) : Nat → Int32 := x.2.2.2.2.2.2.2.2.2.2.2.2.2.2.1
abbrev MS.v_gains (x : MS) : Int32 := x.2.2.2.2.2.2.2.2.2.2.2.2.2.2.2.1
abbrev MS.v_decoded (x : MS) : Nat → Int32 := x.2.2.2.2.2.2.2.2.2.2.2.2.2.2.2.2.1
abbrev MS.v_decodes (x : MS) : Int32 := x.2.2.2.2.2.2.2.2.2.2.2.2.2.2.2.2.2.1
abbrev MS.v_readAt (x : MS) : Int32 := x.2.2.2.2.2.2.2.2.2.2.2.2.2.2.2.2.2.2.1
abbrev MS.v_start (x : MS) : Int32 := x.2.2.2.2.2.2.2.2.2.2.2.2.2.2.2.2.2.2.2.1
abbrev MS.v_kind (x : MS) : Int32 := x.2.2.2.2.2.2.2.2.2.2.2.2.2.2.2.2.2.2.2.2.1
abbrev MS.v_word (x : MS) : Int64 := x.2.2.2.2.2.2.2.2.2.2.2.2.2.2.2.2.2.2.2.2.2.1
abbrev MS.v_letters (x : MS) : Int32 := x.2.2.2.2.2.2.2.2.2.2.2.2.2.2.2.2.2.2.2.2.2.2.1
abbrev MS.v_number (x : MS) : Int32 := x.2.2.2.2.2.2.2.2.2.2.2.2.2.2.2.2.2.2.2.2.2.2.2.1
abbrev MS.v_fine (x : MS) : Int32 := x.2.2.2.2.2.2.2.2.2.2.2.2.2.2.2.2.2.2.2.2.2.2.2.2.1
abbrev MS.v_text (x : MS) : Nat → Int32 := x.2.2.2.2.2.2.2.2.2.2.2.2.2.2.2.2.2.2.2.2.2.2.2.2.2.1
abbrev MS.v_texted (x : MS) : Int32 := x.2.2.2.2.2.2.2.2.2.2.2.2.2.2.2.2.2.2.2.2.2.2.2.2.2.2
abbrev AD : Type := (Nat → Nat) × (Nat → Nat) × (Nat → Nat) × (Nat → Nat) × (Nat → Nat) × (Nat → Nat) × (Nat → Nat) × (Nat → Nat) × (Nat → Nat → Nat) × (Nat → Nat → Nat) × ClassId × ClassId × ClassId × ClassId × ClassId × (Nat → Nat) × Nat
abbrev AD.ca (x : AD) : Nat → Nat := x.1
abbrev AD.a (x : AD) : Nat → Nat := x.2.1
abbrev AD.b (x : AD) : Nat → Nat := x.2.2.1
abbrev AD.oa (x : AD) : Nat → Nat := x.2.2.2.1
abbrev AD.ob (x : AD) : Nat → Nat := x.2.2.2.2.1
abbrev AD.ra (x : AD) : Nat → Nat := x.2.2.2.2.2.1
abbrev AD.sa (x : AD) : Nat → Nat := x.2.2.2.2.2.2.1
abbrev AD.ha (x : AD) : Nat → Nat := x.2.2.2.2.2.2.2.1
abbrev AD.ux (x : AD) : Nat → Nat → Nat := x.2.2.2.2.2.2.2.2.1
abbrev AD.uy (x : AD) : Nat → Nat → Nat := x.2.2.2.2.2.2.2.2.2.1
abbrev AD.kI (x : AD) : ClassId := x.2.2.2.2.2.2.2.2.2.2.1
abbrev AD.kE (x : AD) : ClassId := x.2.2.2.2.2.2.2.2.2.2.2.1
abbrev AD.kB (x : AD) : ClassId := x.2.2.2.2.2.2.2.2.2.2.2.2.1
abbrev AD.kZ (x : AD) : ClassId := x.2.2.2.2.2.2.2.2.2.2.2.2.2.1
abbrev AD.kL (x : AD) : ClassId := x.2.2.2.2.2.2.2.2.2.2.2.2.2.2.1
abbrev AD.ma (x : AD) : Nat → Nat := x.2.2.2.2.2.2.2.2.2.2.2.2.2.2.2.1
abbrev AD.q (x : AD) : Nat := x.2.2.2.2.2.2.2.2.2.2.2.2.2.2.2.2
def CW (Z : AD) (c : CS) : va_W := ([COc Z.ca Z.a Z.oa Z.ra Z.sa Z.ha c.tl c.er c.dl, AWc (Z.ca 1) Z.kI 800 c.tp, AWc (Z.ca 2) Z.kI 400 c.fd, EWc Z.a Z.b Z.kI c.ee, OOc Z.oa Z.ob c.oo, AWc (Z.oa 1) Z.kI 400 (o_symbols c.oo), DWc Z.ob Z.kI (o_d c.oo), TWc (Z.ca 3) c.tx c.tt, RWc Z.ra Z.kI c.rr, SWc Z.sa Z.kI c.sw, HWc Z.ha Z.ux Z.uy Z.kE Z.kI c.hh] : List va_W).flatten
def MW (Z : AD) (m : MS) : va_W := MWc Z.ma Z.kI Z.kB Z.kZ m.v_tape m.v_taped m.v_errorAt m.v_thrown m.v_world m.v_aside m.v_undone m.v_slots m.v_isKept m.v_undos m.v_seenPrefix m.v_seenLast m.v_seen m.v_previous m.v_gained m.v_gains m.v_decoded m.v_decodes m.v_readAt m.v_start m.v_kind m.v_word m.v_letters m.v_number m.v_fine m.v_text m.v_texted
def OWl (Z : AD) (o : Nat → Int64) : va_W := [(Z.q, .inl (Z.kL, 1, .inr (.inl o)))]
def LW (Z : AD) (c : CS) (m : MS) (o : Nat → Int64) : va_W := CW Z c ++ (MW Z m ++ OWl Z o)
theorem LW_c (Z : AD) (c : CS) (m : MS) (o : Nat → Int64) : (LW Z c m o).Perm (CW Z c ++ (MW Z m ++ OWl Z o)) := List.Perm.refl _
theorem LW_m (Z : AD) (c : CS) (m : MS) (o : Nat → Int64) : (LW Z c m o).Perm (MW Z m ++ (CW Z c ++ OWl Z o)) := by
  unfold LW
  rw [← List.append_assoc, ← List.append_assoc]
  exact List.Perm.append_right _ List.perm_append_comm
theorem LW_l (Z : AD) (c : CS) (m : MS) (o : Nat → Int64) : (LW Z c m o).Perm ((CW Z c ++ OWl Z o) ++ MW Z m) := by
  unfold LW
  rw [List.append_assoc]
  exact List.Perm.append_left _ List.perm_append_comm
theorem LW_o (Z : AD) (c : CS) (m : MS) (o : Nat → Int64) : (LW Z c m o).Perm (OWl Z o ++ (CW Z c ++ MW Z m)) := by
  unfold LW
  rw [← List.append_assoc]
  exact List.perm_append_comm
def REL (c : CS) (m : MS) : Prop := ∃ (T : Nat) (er : Int32) (nd : Nat) (tp fd : Nat → Int32) (ee : ES) (oo : OS) (tt : TS) (rr : RS) (sw : SS) (hh : HS) (tx : Nat) (v : Nat → Int32) (th : Int32) (g a u sl kp : Nat → Nat) (mm : Nat) (P0 L0 : Nat → Nat) (sn pv : Int32) (r0 : Nat → Nat) (gn : Int32) (vd : Nat → Int32) (x1 x2 x3 : Int32) (x4 : Int64) (x5 x6 x7 : Int32) (txt : Nat → Int32) (txd : Int32) (bb : Nat → Nat),
  c = ⟨nI T, er, nI nd, tp, fd, ee, oo, tt, rr, sw, hh, tx⟩ ∧
  m = ⟨v, nI T, er, th, nW g, nW a, nW u, nW sl, nW kp, nI mm, nW P0, nW L0, sn, pv, nW r0, gn, vd, nI nd, x1, x2, x3, x4, x5, x6, x7, txt, txd⟩ ∧
  TP tp v T bb ∧ DD fd vd nd ∧ ST ee hh g u mm sl kp ∧ OF oo
theorem TP_0 (f v : Nat → Int32) (b : Nat → Nat) : TP f v 0 b := ⟨Nat.zero_le _, fun i h => absurd h (Nat.not_lt_zero i)⟩
theorem DD_0 (f v : Nat → Int32) : DD f v 0 := ⟨Nat.zero_le _, fun i h => absurd h (Nat.not_lt_zero i)⟩
def LC (p : Program) (l : Launch) (s : State) (m : MethodId) (args : Array Value) (c : Code) (A0 : Nat → Prop) (K : KT) (dC : Nat → ClassId) (dI : Nat → Nat → Nat) (Z : AD) (b L : Nat) (xs : Nat → Int32) : Prop := (p.tables.exec = Jvm.exec) ∧ (c.code = cL_law) ∧ (c.maxLocals = 9) ∧ (s.vm.findClass RL = some m.cls) ∧ (∀ w ∈ wsL_law, w.before args s = true) ∧ (l.stackTraces = false) ∧ (NW s) ∧ (CE K A0 s s.heap) ∧ (XN s) ∧ (XE s) ∧ (va_K (dC, dI) vwCl [(Z.kI, .int), (Z.kE, .object "LzwCodec$Encoder"), (Z.kL, .long), (Z.kB, .byte), (Z.kZ, .boolean)] s) ∧ (∀ q : Nat, s.heap.size ≤ q → A0 q) ∧ (va_X b L xs s s.heap) ∧ (b < s.heap.size) ∧ (¬ A0 b)
theorem LC.hx {p : Program} {l : Launch} {s : State} {m : MethodId} {args : Array Value} {c : Code} {A0 : Nat → Prop} {K : KT} {dC : Nat → ClassId} {dI : Nat → Nat → Nat} {Z : AD} {b L : Nat} {xs : Nat → Int32} (C : LC p l s m args c A0 K dC dI Z b L xs) : p.tables.exec = Jvm.exec := C.1
theorem LC.hb {p : Program} {l : Launch} {s : State} {m : MethodId} {args : Array Value} {c : Code} {A0 : Nat → Prop} {K : KT} {dC : Nat → ClassId} {dI : Nat → Nat → Nat} {Z : AD} {b L : Nat} {xs : Nat → Int32} (C : LC p l s m args c A0 K dC dI Z b L xs) : c.code = cL_law := C.2.1
theorem LC.hml {p : Program} {l : Launch} {s : State} {m : MethodId} {args : Array Value} {c : Code} {A0 : Nat → Prop} {K : KT} {dC : Nat → ClassId} {dI : Nat → Nat → Nat} {Z : AD} {b L : Nat} {xs : Nat → Int32} (C : LC p l s m args c A0 K dC dI Z b L xs) : c.maxLocals = 9 := C.2.2.1
theorem LC.hown {p : Program} {l : Launch} {s : State} {m : MethodId} {args : Array Value} {c : Code} {A0 : Nat → Prop} {K : KT} {dC : Nat → ClassId} {dI : Nat → Nat → Nat} {Z : AD} {b L : Nat} {xs : Nat → Int32} (C : LC p l s m args c A0 K dC dI Z b L xs) : s.vm.findClass RL = some m.cls := C.2.2.2.1
theorem LC.hts {p : Program} {l : Launch} {s : State} {m : MethodId} {args : Array Value} {c : Code} {A0 : Nat → Prop} {K : KT} {dC : Nat → ClassId} {dI : Nat → Nat → Nat} {Z : AD} {b L : Nat} {xs : Nat → Int32} (C : LC p l s m args c A0 K dC dI Z b L xs) : ∀ w ∈ wsL_law, w.before args s = true := C.2.2.2.2.1
theorem LC.hl0 {p : Program} {l : Launch} {s : State} {m : MethodId} {args : Array Value} {c : Code} {A0 : Nat → Prop} {K : KT} {dC : Nat → ClassId} {dI : Nat → Nat → Nat} {Z : AD} {b L : Nat} {xs : Nat → Int32} (C : LC p l s m args c A0 K dC dI Z b L xs) : l.stackTraces = false := C.2.2.2.2.2.1
theorem LC.hNW {p : Program} {l : Launch} {s : State} {m : MethodId} {args : Array Value} {c : Code} {A0 : Nat → Prop} {K : KT} {dC : Nat → ClassId} {dI : Nat → Nat → Nat} {Z : AD} {b L : Nat} {xs : Nat → Int32} (C : LC p l s m args c A0 K dC dI Z b L xs) : NW s := C.2.2.2.2.2.2.1
theorem LC.hCE {p : Program} {l : Launch} {s : State} {m : MethodId} {args : Array Value} {c : Code} {A0 : Nat → Prop} {K : KT} {dC : Nat → ClassId} {dI : Nat → Nat → Nat} {Z : AD} {b L : Nat} {xs : Nat → Int32} (C : LC p l s m args c A0 K dC dI Z b L xs) : CE K A0 s s.heap := C.2.2.2.2.2.2.2.1
theorem LC.hXN {p : Program} {l : Launch} {s : State} {m : MethodId} {args : Array Value} {c : Code} {A0 : Nat → Prop} {K : KT} {dC : Nat → ClassId} {dI : Nat → Nat → Nat} {Z : AD} {b L : Nat} {xs : Nat → Int32} (C : LC p l s m args c A0 K dC dI Z b L xs) : XN s := C.2.2.2.2.2.2.2.2.1
theorem LC.hXE {p : Program} {l : Launch} {s : State} {m : MethodId} {args : Array Value} {c : Code} {A0 : Nat → Prop} {K : KT} {dC : Nat → ClassId} {dI : Nat → Nat → Nat} {Z : AD} {b L : Nat} {xs : Nat → Int32} (C : LC p l s m args c A0 K dC dI Z b L xs) : XE s := C.2.2.2.2.2.2.2.2.2.1
theorem LC.hK {p : Program} {l : Launch} {s : State} {m : MethodId} {args : Array Value} {c : Code} {A0 : Nat → Prop} {K : KT} {dC : Nat → ClassId} {dI : Nat → Nat → Nat} {Z : AD} {b L : Nat} {xs : Nat → Int32} (C : LC p l s m args c A0 K dC dI Z b L xs) : va_K (dC, dI) vwCl [(Z.kI, .int), (Z.kE, .object "LzwCodec$Encoder"), (Z.kL, .long), (Z.kB, .byte), (Z.kZ, .boolean)] s := C.2.2.2.2.2.2.2.2.2.2.1
theorem LC.hA {p : Program} {l : Launch} {s : State} {m : MethodId} {args : Array Value} {c : Code} {A0 : Nat → Prop} {K : KT} {dC : Nat → ClassId} {dI : Nat → Nat → Nat} {Z : AD} {b L : Nat} {xs : Nat → Int32} (C : LC p l s m args c A0 K dC dI Z b L xs) : ∀ q : Nat, s.heap.size ≤ q → A0 q := C.2.2.2.2.2.2.2.2.2.2.2.1
theorem LC.hX {p : Program} {l : Launch} {s : State} {m : MethodId} {args : Array Value} {c : Code} {A0 : Nat → Prop} {K : KT} {dC : Nat → ClassId} {dI : Nat → Nat → Nat} {Z : AD} {b L : Nat} {xs : Nat → Int32} (C : LC p l s m args c A0 K dC dI Z b L xs) : va_X b L xs s s.heap := C.2.2.2.2.2.2.2.2.2.2.2.2.1
theorem LC.hbl {p : Program} {l : Launch} {s : State} {m : MethodId} {args : Array Value} {c : Code} {A0 : Nat → Prop} {K : KT} {dC : Nat → ClassId} {dI : Nat → Nat → Nat} {Z : AD} {b L : Nat} {xs : Nat → Int32} (C : LC p l s m args c A0 K dC dI Z b L xs) : b < s.heap.size := C.2.2.2.2.2.2.2.2.2.2.2.2.2.1
theorem LC.hbA {p : Program} {l : Launch} {s : State} {m : MethodId} {args : Array Value} {c : Code} {A0 : Nat → Prop} {K : KT} {dC : Nat → ClassId} {dI : Nat → Nat → Nat} {Z : AD} {b L : Nat} {xs : Nat → Int32} (C : LC p l s m args c A0 K dC dI Z b L xs) : ¬ A0 b := C.2.2.2.2.2.2.2.2.2.2.2.2.2.2
section LROWS
variable {p : Program} {l : Launch} {e : Env} {R : Room} {s : State} {m : MethodId} {args : Array Value} {below : List Frame} {meth : Method} {c : Code} {H : Heap} {locs : List Loc} {cells slots : Nat} {Q : State → Prop}
variable {pc : Nat} {ls : Array Slot} {rest st0 : List Value} {A0 : Nat → Prop} {K : KT} {dC : Nat → ClassId} {dI : Nat → Nat → Nat} {Z : AD} {b L : Nat} {xs : Nat → Int32}
variable {y : MethodName} {wsC ws9 : List Cond} {rm : Room} {bytes : ByteArray} {maxL index n : Nat} {ret : Option FieldType} {As : List Value} {c0 c1 : CS} {m0 m1 : MS} {o o1 : Nat → Int64} {fs : List Value}
theorem lqRi {z : Int32} (C : LC p l s m args c A0 K dC dI Z b L xs) (hM : Met l y wsC rm (va_Pc (.ref (Z.ca 0) :: As) (ROp dC dI (CW Z c0) [(Z.kI, .int), (Z.kE, .object "LzwCodec$Encoder")])) (roQi z) 0 0 (fun _ => False)) (hG : GoodIn wsL_law (wsV RL index RX7 y wsC)) (hd : y.cls = RX7 ∧ y.cls ≠ "java/lang/invoke/MethodHandle" ∧ y.cls ≠ "java/lang/invoke/VarHandle" ∧ (parseMethodDescriptor y.desc).map (fun d => d.parameters.length) = some n) (hw : wsC = Cond.code y bytes maxL ret :: ws9) (hR : rm.frames + 1 ≤ R.frames ∧ 8 + (maxL + 11) + rm.locals ≤ R.locals) (hcs : rm.cells = 0 ∧ rm.slots = 0) (hP : va_P (dC, dI) vwCl (LW Z c0 m0 o) H) (hD : va_D A0 (LW Z c0 m0 o)) (hS : va_S A0 s.heap H locs) (hsize : ls.size = 9) (hnn : As.length = n) (hst0 : st0 = As.reverse ++ .ref (Z.ca 0) :: rest) (hroom : (rest.map fun v => v.category).sum ≤ 8) (hdg : decode cL_law pc = .ok (.invokevirtual index, 3)) (hcl : cells ≤ R.cells ∧ slots ≤ R.slots)
    (kk : ∀ (H1 : Heap) (locs1 : List Loc), va_P (dC, dI) vwCl (LW Z c0 m0 o) H1 → va_D A0 (LW Z c0 m0 o) → va_S A0 s.heap H1 locs1 → W p l e R s m args below meth c H1 locs1 cells slots Q (F0 m (pc + 3) ls (.int z :: rest))) : W p l e R s m args below meth c H locs cells slots Q (F0 m pc ls st0) := by
  have hKc : va_K (dC, dI) vwCl [(Z.kI, .int), (Z.kE, .object "LzwCodec$Encoder")] s := C.hK.sub [0, 1] rfl
  have hPc := P_part (LW_c Z c0 m0 o) hP
  obtain ⟨cell, r1, r2, r3⟩ := va_recv (ci := 7) (q0 := 0) (a := (Z.ca 0)) hKc hPc rfl rfl
  exact ro_ki (va_runV (As := As) (rest := rest) ⟨C.hx, C.hb, C.hml, C.hown, C.hts⟩ hM (cwV n C.hts hG hw hcs.1 hcs.2 hd hR) ⟨(ro_pre C.hNW hPc hKc).1, ⟨cell, r1, r2, r3⟩, (ro_pre C.hNW hPc hKc).2⟩ (g := F0 m pc ls st0) rfl hnn hsize hst0 (lv_room hroom) hdg ⟨hcl.1, hcl.2⟩) hP hS (fun H1 locs1 hP hS => kk H1 locs1 hP hD hS)
theorem lqRd {z : UInt64} (C : LC p l s m args c A0 K dC dI Z b L xs) (hM : Met l y wsC rm (va_Pc (.ref (Z.ca 0) :: As) (ROp dC dI (CW Z c0) [(Z.kI, .int), (Z.kE, .object "LzwCodec$Encoder")])) (roQd z) 0 0 (fun _ => False)) (hG : GoodIn wsL_law (wsV RL index RX7 y wsC)) (hd : y.cls = RX7 ∧ y.cls ≠ "java/lang/invoke/MethodHandle" ∧ y.cls ≠ "java/lang/invoke/VarHandle" ∧ (parseMethodDescriptor y.desc).map (fun d => d.parameters.length) = some n) (hw : wsC = Cond.code y bytes maxL ret :: ws9) (hR : rm.frames + 1 ≤ R.frames ∧ 8 + (maxL + 11) + rm.locals ≤ R.locals) (hcs : rm.cells = 0 ∧ rm.slots = 0) (hP : va_P (dC, dI) vwCl (LW Z c0 m0 o) H) (hD : va_D A0 (LW Z c0 m0 o)) (hS : va_S A0 s.heap H locs) (hsize : ls.size = 9) (hnn : As.length = n) (hst0 : st0 = As.reverse ++ .ref (Z.ca 0) :: rest) (hroom : (rest.map fun v => v.category).sum ≤ 8) (hdg : decode cL_law pc = .ok (.invokevirtual index, 3)) (hcl : cells ≤ R.cells ∧ slots ≤ R.slots)
    (kk : ∀ (H1 : Heap) (locs1 : List Loc), va_P (dC, dI) vwCl (LW Z c0 m0 o) H1 → va_D A0 (LW Z c0 m0 o) → va_S A0 s.heap H1 locs1 → W p l e R s m args below meth c H1 locs1 cells slots Q (F0 m (pc + 3) ls (.double z :: rest))) : W p l e R s m args below meth c H locs cells slots Q (F0 m pc ls st0) := by
  have hKc : va_K (dC, dI) vwCl [(Z.kI, .int), (Z.kE, .object "LzwCodec$Encoder")] s := C.hK.sub [0, 1] rfl
  have hPc := P_part (LW_c Z c0 m0 o) hP
  obtain ⟨cell, r1, r2, r3⟩ := va_recv (ci := 7) (q0 := 0) (a := (Z.ca 0)) hKc hPc rfl rfl
  refine va_calld (va_runV (As := As) (rest := rest) ⟨C.hx, C.hb, C.hml, C.hown, C.hts⟩ hM (cwV n C.hts hG hw hcs.1 hcs.2 hd hR) ⟨(ro_pre C.hNW hPc hKc).1, ⟨cell, r1, r2, r3⟩, (ro_pre C.hNW hPc hKc).2⟩ (g := F0 m pc ls st0) rfl hnn hsize hst0 (lv_room hroom) hdg ⟨hcl.1, hcl.2⟩) hS (fun q _ h => False.elim h) (fun q h => False.elim h) (fun r u t H1 locs1 ht hvm hw hB hz hk hS1 => ?_)
  have hw : r = z := hw
  subst hw
  exact kk H1 locs1 (hP.kept (fun k q hq => hk q.1 (hP k q hq).lt (fun h => h))) hD hS1
theorem lqRf {z : UInt32} (C : LC p l s m args c A0 K dC dI Z b L xs) (hM : Met l y wsC rm (va_Pc (.ref (Z.ca 0) :: As) (ROp dC dI (CW Z c0) [(Z.kI, .int), (Z.kE, .object "LzwCodec$Encoder")])) (roQf z) 0 0 (fun _ => False)) (hG : GoodIn wsL_law (wsV RL index RX7 y wsC)) (hd : y.cls = RX7 ∧ y.cls ≠ "java/lang/invoke/MethodHandle" ∧ y.cls ≠ "java/lang/invoke/VarHandle" ∧ (parseMethodDescriptor y.desc).map (fun d => d.parameters.length) = some n) (hw : wsC = Cond.code y bytes maxL ret :: ws9) (hR : rm.frames + 1 ≤ R.frames ∧ 8 + (maxL + 11) + rm.locals ≤ R.locals) (hcs : rm.cells = 0 ∧ rm.slots = 0) (hP : va_P (dC, dI) vwCl (LW Z c0 m0 o) H) (hD : va_D A0 (LW Z c0 m0 o)) (hS : va_S A0 s.heap H locs) (hsize : ls.size = 9) (hnn : As.length = n) (hst0 : st0 = As.reverse ++ .ref (Z.ca 0) :: rest) (hroom : (rest.map fun v => v.category).sum ≤ 8) (hdg : decode cL_law pc = .ok (.invokevirtual index, 3)) (hcl : cells ≤ R.cells ∧ slots ≤ R.slots)
    (kk : ∀ (H1 : Heap) (locs1 : List Loc), va_P (dC, dI) vwCl (LW Z c0 m0 o) H1 → va_D A0 (LW Z c0 m0 o) → va_S A0 s.heap H1 locs1 → W p l e R s m args below meth c H1 locs1 cells slots Q (F0 m (pc + 3) ls (.float z :: rest))) : W p l e R s m args below meth c H locs cells slots Q (F0 m pc ls st0) := by
  have hKc : va_K (dC, dI) vwCl [(Z.kI, .int), (Z.kE, .object "LzwCodec$Encoder")] s := C.hK.sub [0, 1] rfl
  have hPc := P_part (LW_c Z c0 m0 o) hP
  obtain ⟨cell, r1, r2, r3⟩ := va_recv (ci := 7) (q0 := 0) (a := (Z.ca 0)) hKc hPc rfl rfl
  refine va_callf (va_runV (As := As) (rest := rest) ⟨C.hx, C.hb, C.hml, C.hown, C.hts⟩ hM (cwV n C.hts hG hw hcs.1 hcs.2 hd hR) ⟨(ro_pre C.hNW hPc hKc).1, ⟨cell, r1, r2, r3⟩, (ro_pre C.hNW hPc hKc).2⟩ (g := F0 m pc ls st0) rfl hnn hsize hst0 (lv_room hroom) hdg ⟨hcl.1, hcl.2⟩) hS (fun q _ h => False.elim h) (fun q h => False.elim h) (fun r u t H1 locs1 ht hvm hw hB hz hk hS1 => ?_)
  have hw : r = z := hw
  subst hw
  exact kk H1 locs1 (hP.kept (fun k q hq => hk q.1 (hP k q hq).lt (fun h => h))) hD hS1
theorem lqWi {z : Int32} (C : LC p l s m args c A0 K dC dI Z b L xs) (hM : Met l y wsC rm (va_Pc (.ref (Z.ca 0) :: As) (RWp dC dI H.size (CW Z c0) [(Z.kI, .int), (Z.kE, .object "LzwCodec$Encoder")])) (rwQi dC dI (va_A (CW Z c0) H.size) (CW Z c1) z) 0 0 (va_A (CW Z c0) H.size)) (hG : GoodIn wsL_law (wsV RL index RX7 y wsC)) (hd : y.cls = RX7 ∧ y.cls ≠ "java/lang/invoke/MethodHandle" ∧ y.cls ≠ "java/lang/invoke/VarHandle" ∧ (parseMethodDescriptor y.desc).map (fun d => d.parameters.length) = some n) (hw : wsC = Cond.code y bytes maxL ret :: ws9) (hR : rm.frames + 1 ≤ R.frames ∧ 8 + (maxL + 11) + rm.locals ≤ R.locals) (hcs : rm.cells = 0 ∧ rm.slots = 0) (hP : va_P (dC, dI) vwCl (LW Z c0 m0 o) H) (hD : va_D A0 (LW Z c0 m0 o)) (hS : va_S A0 s.heap H locs) (hsize : ls.size = 9) (hnn : As.length = n) (hst0 : st0 = As.reverse ++ .ref (Z.ca 0) :: rest) (hroom : (rest.map fun v => v.category).sum ≤ 8) (hdg : decode cL_law pc = .ok (.invokevirtual index, 3)) (hcl : cells ≤ R.cells ∧ slots ≤ R.slots)
    (kk : ∀ (H1 : Heap) (locs1 : List Loc), va_P (dC, dI) vwCl (LW Z c1 m0 o) H1 → va_D A0 (LW Z c1 m0 o) → va_S A0 s.heap H1 locs1 → W p l e R s m args below meth c H1 locs1 cells slots Q (F0 m (pc + 3) ls (.int z :: rest))) : W p l e R s m args below meth c H locs cells slots Q (F0 m pc ls st0) := by
  have hKc : va_K (dC, dI) vwCl [(Z.kI, .int), (Z.kE, .object "LzwCodec$Encoder")] s := C.hK.sub [0, 1] rfl
  have hPc := P_part (LW_c Z c0 m0 o) hP
  obtain ⟨cell, r1, r2, r3⟩ := va_recv (ci := 7) (q0 := 0) (a := (Z.ca 0)) hKc hPc rfl rfl
  have hDp := D_part (LW_c Z c0 m0 o) hD
  have hF : ∀ q, va_A (CW Z c0) H.size q → A0 q := all_A hDp hS C.hA
  have hDc : va_D (fun _ => True) (CW Z c0) := hDp.weaken (fun _ _ _ _ => trivial)
  exact rw_kiB (va_runV (As := As) (rest := rest) ⟨C.hx, C.hb, C.hml, C.hown, C.hts⟩ hM (cwV n C.hts hG hw hcs.1 hcs.2 hd hR) ⟨(rw_pre C.hNW hPc hDc hKc).1, ⟨cell, r1, r2, r3⟩, (rw_pre C.hNW hPc hDc hKc).2⟩ (g := F0 m pc ls st0) rfl hnn hsize hst0 (lv_room hroom) hdg ⟨hcl.1, hcl.2⟩) hP hD hS C.hA (LW_c Z c0 m0 o) (LW_c Z c1 m0 o).symm hF kk
theorem lqWic {z : Int32} (C : LC p l s m args c A0 K dC dI Z b L xs) (hM : Met l y wsC rm (va_Pc (.ref (Z.ca 0) :: As) (RWc' K dC dI H.size (CW Z c0) [(Z.kI, .int), (Z.kE, .object "LzwCodec$Encoder")])) (rwQi dC dI (va_A (CW Z c0) H.size) (CW Z c1) z) 0 0 (va_A (CW Z c0) H.size)) (hG : GoodIn wsL_law (wsV RL index RX7 y wsC)) (hd : y.cls = RX7 ∧ y.cls ≠ "java/lang/invoke/MethodHandle" ∧ y.cls ≠ "java/lang/invoke/VarHandle" ∧ (parseMethodDescriptor y.desc).map (fun d => d.parameters.length) = some n) (hw : wsC = Cond.code y bytes maxL ret :: ws9) (hR : rm.frames + 1 ≤ R.frames ∧ 8 + (maxL + 11) + rm.locals ≤ R.locals) (hcs : rm.cells = 0 ∧ rm.slots = 0) (hP : va_P (dC, dI) vwCl (LW Z c0 m0 o) H) (hD : va_D A0 (LW Z c0 m0 o)) (hS : va_S A0 s.heap H locs) (hsize : ls.size = 9) (hnn : As.length = n) (hst0 : st0 = As.reverse ++ .ref (Z.ca 0) :: rest) (hroom : (rest.map fun v => v.category).sum ≤ 8) (hdg : decode cL_law pc = .ok (.invokevirtual index, 3)) (hcl : cells ≤ R.cells ∧ slots ≤ R.slots)
    (kk : ∀ (H1 : Heap) (locs1 : List Loc), va_P (dC, dI) vwCl (LW Z c1 m0 o) H1 → va_D A0 (LW Z c1 m0 o) → va_S A0 s.heap H1 locs1 → W p l e R s m args below meth c H1 locs1 cells slots Q (F0 m (pc + 3) ls (.int z :: rest))) : W p l e R s m args below meth c H locs cells slots Q (F0 m pc ls st0) := by
  have hKc : va_K (dC, dI) vwCl [(Z.kI, .int), (Z.kE, .object "LzwCodec$Encoder")] s := C.hK.sub [0, 1] rfl
  have hPc := P_part (LW_c Z c0 m0 o) hP
  obtain ⟨cell, r1, r2, r3⟩ := va_recv (ci := 7) (q0 := 0) (a := (Z.ca 0)) hKc hPc rfl rfl
  have hDp := D_part (LW_c Z c0 m0 o) hD
  have hF : ∀ q, va_A (CW Z c0) H.size q → A0 q := all_A hDp hS C.hA
  have hDc : va_D (fun _ => True) (CW Z c0) := hDp.weaken (fun _ _ _ _ => trivial)
  exact rw_kiB (va_runV (As := As) (rest := rest) ⟨C.hx, C.hb, C.hml, C.hown, C.hts⟩ hM (cwV n C.hts hG hw hcs.1 hcs.2 hd hR) ⟨(rwc_pre C.hNW C.hCE hS hPc hDc hKc hF).1, ⟨cell, r1, r2, r3⟩, (rwc_pre C.hNW C.hCE hS hPc hDc hKc hF).2⟩ (g := F0 m pc ls st0) rfl hnn hsize hst0 (lv_room hroom) hdg ⟨hcl.1, hcl.2⟩) hP hD hS C.hA (LW_c Z c0 m0 o) (LW_c Z c1 m0 o).symm hF kk
theorem lqMo {z : Int32} (C : LC p l s m args c A0 K dC dI Z b L xs) (hM : Met l y wsC rm (va_Pc (.ref (Z.ma 0) :: As) (ROp dC dI (MW Z m0) [(Z.kI, .int), (Z.kB, .byte), (Z.kZ, .boolean)])) (roQi z) 0 0 (fun _ => False)) (hG : GoodIn wsL_law (wsV RL index RX8 y wsC)) (hd : y.cls = RX8 ∧ y.cls ≠ "java/lang/invoke/MethodHandle" ∧ y.cls ≠ "java/lang/invoke/VarHandle" ∧ (parseMethodDescriptor y.desc).map (fun d => d.parameters.length) = some n) (hw : wsC = Cond.code y bytes maxL ret :: ws9) (hR : rm.frames + 1 ≤ R.frames ∧ 8 + (maxL + 11) + rm.locals ≤ R.locals) (hcs : rm.cells = 0 ∧ rm.slots = 0) (hP : va_P (dC, dI) vwCl (LW Z c0 m0 o) H) (hD : va_D A0 (LW Z c0 m0 o)) (hS : va_S A0 s.heap H locs) (hsize : ls.size = 9) (hnn : As.length = n) (hst0 : st0 = As.reverse ++ .ref (Z.ma 0) :: rest) (hroom : (rest.map fun v => v.category).sum ≤ 8) (hdg : decode cL_law pc = .ok (.invokevirtual index, 3)) (hcl : cells ≤ R.cells ∧ slots ≤ R.slots)
    (kk : ∀ (H1 : Heap) (locs1 : List Loc), va_P (dC, dI) vwCl (LW Z c0 m0 o) H1 → va_D A0 (LW Z c0 m0 o) → va_S A0 s.heap H1 locs1 → W p l e R s m args below meth c H1 locs1 cells slots Q (F0 m (pc + 3) ls (.int z :: rest))) : W p l e R s m args below meth c H locs cells slots Q (F0 m pc ls st0) := by
  have hKc : va_K (dC, dI) vwCl [(Z.kI, .int), (Z.kB, .byte), (Z.kZ, .boolean)] s := C.hK.sub [0, 3, 4] rfl
  have hPc := P_part (LW_m Z c0 m0 o) hP
  obtain ⟨cell, r1, r2, r3⟩ := va_recv (ci := 8) (q0 := 0) (a := (Z.ma 0)) hKc hPc rfl rfl
  exact ro_ki (va_runV (As := As) (rest := rest) ⟨C.hx, C.hb, C.hml, C.hown, C.hts⟩ hM (cwV n C.hts hG hw hcs.1 hcs.2 hd hR) ⟨(ro_pre C.hNW hPc hKc).1, ⟨cell, r1, r2, r3⟩, (ro_pre C.hNW hPc hKc).2⟩ (g := F0 m pc ls st0) rfl hnn hsize hst0 (lv_room hroom) hdg ⟨hcl.1, hcl.2⟩) hP hS (fun H1 locs1 hP hS => kk H1 locs1 hP hD hS)
theorem lqMi {z : Int32} (C : LC p l s m args c A0 K dC dI Z b L xs) (hM : Met l y wsC rm (va_Pc (.ref (Z.ma 0) :: As) (RWp dC dI H.size (MW Z m0) [(Z.kI, .int), (Z.kB, .byte), (Z.kZ, .boolean)])) (rwQi dC dI (va_A (MW Z m0) H.size) (MW Z m1) z) 0 0 (va_A (MW Z m0) H.size)) (hG : GoodIn wsL_law (wsV RL index RX8 y wsC)) (hd : y.cls = RX8 ∧ y.cls ≠ "java/lang/invoke/MethodHandle" ∧ y.cls ≠ "java/lang/invoke/VarHandle" ∧ (parseMethodDescriptor y.desc).map (fun d => d.parameters.length) = some n) (hw : wsC = Cond.code y bytes maxL ret :: ws9) (hR : rm.frames + 1 ≤ R.frames ∧ 8 + (maxL + 11) + rm.locals ≤ R.locals) (hcs : rm.cells = 0 ∧ rm.slots = 0) (hP : va_P (dC, dI) vwCl (LW Z c0 m0 o) H) (hD : va_D A0 (LW Z c0 m0 o)) (hS : va_S A0 s.heap H locs) (hsize : ls.size = 9) (hnn : As.length = n) (hst0 : st0 = As.reverse ++ .ref (Z.ma 0) :: rest) (hroom : (rest.map fun v => v.category).sum ≤ 8) (hdg : decode cL_law pc = .ok (.invokevirtual index, 3)) (hcl : cells ≤ R.cells ∧ slots ≤ R.slots)
    (kk : ∀ (H1 : Heap) (locs1 : List Loc), va_P (dC, dI) vwCl (LW Z c0 m1 o) H1 → va_D A0 (LW Z c0 m1 o) → va_S A0 s.heap H1 locs1 → W p l e R s m args below meth c H1 locs1 cells slots Q (F0 m (pc + 3) ls (.int z :: rest))) : W p l e R s m args below meth c H locs cells slots Q (F0 m pc ls st0) := by
  have hKc : va_K (dC, dI) vwCl [(Z.kI, .int), (Z.kB, .byte), (Z.kZ, .boolean)] s := C.hK.sub [0, 3, 4] rfl
  have hPc := P_part (LW_m Z c0 m0 o) hP
  obtain ⟨cell, r1, r2, r3⟩ := va_recv (ci := 8) (q0 := 0) (a := (Z.ma 0)) hKc hPc rfl rfl
  have hDp := D_part (LW_m Z c0 m0 o) hD
  have hF : ∀ q, va_A (MW Z m0) H.size q → A0 q := all_A hDp hS C.hA
  have hDc : va_D (fun _ => True) (MW Z m0) := hDp.weaken (fun _ _ _ _ => trivial)
  exact rw_kiB (va_runV (As := As) (rest := rest) ⟨C.hx, C.hb, C.hml, C.hown, C.hts⟩ hM (cwV n C.hts hG hw hcs.1 hcs.2 hd hR) ⟨(rw_pre C.hNW hPc hDc hKc).1, ⟨cell, r1, r2, r3⟩, (rw_pre C.hNW hPc hDc hKc).2⟩ (g := F0 m pc ls st0) rfl hnn hsize hst0 (lv_room hroom) hdg ⟨hcl.1, hcl.2⟩) hP hD hS C.hA (LW_m Z c0 m0 o) (LW_m Z c0 m1 o).symm hF kk
theorem lqMv (C : LC p l s m args c A0 K dC dI Z b L xs) (hM : Met l y wsC rm (va_Pc (.ref (Z.ma 0) :: As) (RWp dC dI H.size (MW Z m0) [(Z.kI, .int), (Z.kB, .byte), (Z.kZ, .boolean)])) (rwQv dC dI (va_A (MW Z m0) H.size) (MW Z m1)) 0 0 (va_A (MW Z m0) H.size)) (hG : GoodIn wsL_law (wsV RL index RX8 y wsC)) (hd : y.cls = RX8 ∧ y.cls ≠ "java/lang/invoke/MethodHandle" ∧ y.cls ≠ "java/lang/invoke/VarHandle" ∧ (parseMethodDescriptor y.desc).map (fun d => d.parameters.length) = some n) (hw : wsC = Cond.code y bytes maxL ret :: ws9) (hR : rm.frames + 1 ≤ R.frames ∧ 8 + (maxL + 11) + rm.locals ≤ R.locals) (hcs : rm.cells = 0 ∧ rm.slots = 0) (hP : va_P (dC, dI) vwCl (LW Z c0 m0 o) H) (hD : va_D A0 (LW Z c0 m0 o)) (hS : va_S A0 s.heap H locs) (hsize : ls.size = 9) (hnn : As.length = n) (hst0 : st0 = As.reverse ++ .ref (Z.ma 0) :: rest) (hroom : (rest.map fun v => v.category).sum ≤ 8) (hdg : decode cL_law pc = .ok (.invokevirtual index, 3)) (hcl : cells ≤ R.cells ∧ slots ≤ R.slots)
    (kk : ∀ (H1 : Heap) (locs1 : List Loc), va_P (dC, dI) vwCl (LW Z c0 m1 o) H1 → va_D A0 (LW Z c0 m1 o) → va_S A0 s.heap H1 locs1 → W p l e R s m args below meth c H1 locs1 cells slots Q (F0 m (pc + 3) ls (rest))) : W p l e R s m args below meth c H locs cells slots Q (F0 m pc ls st0) := by
  have hKc : va_K (dC, dI) vwCl [(Z.kI, .int), (Z.kB, .byte), (Z.kZ, .boolean)] s := C.hK.sub [0, 3, 4] rfl
  have hPc := P_part (LW_m Z c0 m0 o) hP
  obtain ⟨cell, r1, r2, r3⟩ := va_recv (ci := 8) (q0 := 0) (a := (Z.ma 0)) hKc hPc rfl rfl
  have hDp := D_part (LW_m Z c0 m0 o) hD
  have hF : ∀ q, va_A (MW Z m0) H.size q → A0 q := all_A hDp hS C.hA
  have hDc : va_D (fun _ => True) (MW Z m0) := hDp.weaken (fun _ _ _ _ => trivial)
  exact rw_kvB (va_runV (As := As) (rest := rest) ⟨C.hx, C.hb, C.hml, C.hown, C.hts⟩ hM (cwV n C.hts hG hw hcs.1 hcs.2 hd hR) ⟨(rw_pre C.hNW hPc hDc hKc).1, ⟨cell, r1, r2, r3⟩, (rw_pre C.hNW hPc hDc hKc).2⟩ (g := F0 m pc ls st0) rfl hnn hsize hst0 (lv_room hroom) hdg ⟨hcl.1, hcl.2⟩) hP hD hS C.hA (LW_m Z c0 m0 o) (LW_m Z c0 m1 o).symm hF kk
theorem lqMd {z : UInt64} (C : LC p l s m args c A0 K dC dI Z b L xs) (hM : Met l y wsC rm (va_Pc (.ref (Z.ma 0) :: As) (RWp dC dI H.size (MW Z m0) [(Z.kI, .int), (Z.kB, .byte), (Z.kZ, .boolean)])) (rwQd dC dI (va_A (MW Z m0) H.size) (MW Z m1) z) 0 0 (va_A (MW Z m0) H.size)) (hG : GoodIn wsL_law (wsV RL index RX8 y wsC)) (hd : y.cls = RX8 ∧ y.cls ≠ "java/lang/invoke/MethodHandle" ∧ y.cls ≠ "java/lang/invoke/VarHandle" ∧ (parseMethodDescriptor y.desc).map (fun d => d.parameters.length) = some n) (hw : wsC = Cond.code y bytes maxL ret :: ws9) (hR : rm.frames + 1 ≤ R.frames ∧ 8 + (maxL + 11) + rm.locals ≤ R.locals) (hcs : rm.cells = 0 ∧ rm.slots = 0) (hP : va_P (dC, dI) vwCl (LW Z c0 m0 o) H) (hD : va_D A0 (LW Z c0 m0 o)) (hS : va_S A0 s.heap H locs) (hsize : ls.size = 9) (hnn : As.length = n) (hst0 : st0 = As.reverse ++ .ref (Z.ma 0) :: rest) (hroom : (rest.map fun v => v.category).sum ≤ 8) (hdg : decode cL_law pc = .ok (.invokevirtual index, 3)) (hcl : cells ≤ R.cells ∧ slots ≤ R.slots)
    (kk : ∀ (H1 : Heap) (locs1 : List Loc), va_P (dC, dI) vwCl (LW Z c0 m1 o) H1 → va_D A0 (LW Z c0 m1 o) → va_S A0 s.heap H1 locs1 → W p l e R s m args below meth c H1 locs1 cells slots Q (F0 m (pc + 3) ls (.double z :: rest))) : W p l e R s m args below meth c H locs cells slots Q (F0 m pc ls st0) := by
  have hKc : va_K (dC, dI) vwCl [(Z.kI, .int), (Z.kB, .byte), (Z.kZ, .boolean)] s := C.hK.sub [0, 3, 4] rfl
  have hPc := P_part (LW_m Z c0 m0 o) hP
  obtain ⟨cell, r1, r2, r3⟩ := va_recv (ci := 8) (q0 := 0) (a := (Z.ma 0)) hKc hPc rfl rfl
  have hDp := D_part (LW_m Z c0 m0 o) hD
  have hF : ∀ q, va_A (MW Z m0) H.size q → A0 q := all_A hDp hS C.hA
  have hDc : va_D (fun _ => True) (MW Z m0) := hDp.weaken (fun _ _ _ _ => trivial)
  refine va_calld (va_runV (As := As) (rest := rest) ⟨C.hx, C.hb, C.hml, C.hown, C.hts⟩ hM (cwV n C.hts hG hw hcs.1 hcs.2 hd hR) ⟨(rw_pre C.hNW hPc hDc hKc).1, ⟨cell, r1, r2, r3⟩, (rw_pre C.hNW hPc hDc hKc).2⟩ (g := F0 m pc ls st0) rfl hnn hsize hst0 (lv_room hroom) hdg ⟨hcl.1, hcl.2⟩) hS (fun q _ h => hF q h) hF (fun r u t H1 locs1 ht hvm hw hB hz hk hS1 => ?_)
  have hw : r = z := hw
  subst hw
  obtain ⟨h1, h2⟩ := hB
  rw [ht] at h1
  obtain ⟨g1, g2⟩ := fl_mix (LW_m Z c0 m0 o) hP hD hF hk h1 h2
  exact kk H1 locs1 (g1.perm (LW_m Z c0 m1 o).symm) (g2.perm (LW_m Z c0 m1 o).symm) hS1
theorem lqMf {z : UInt32} (C : LC p l s m args c A0 K dC dI Z b L xs) (hM : Met l y wsC rm (va_Pc (.ref (Z.ma 0) :: As) (RWp dC dI H.size (MW Z m0) [(Z.kI, .int), (Z.kB, .byte), (Z.kZ, .boolean)])) (rwQf dC dI (va_A (MW Z m0) H.size) (MW Z m1) z) 0 0 (va_A (MW Z m0) H.size)) (hG : GoodIn wsL_law (wsV RL index RX8 y wsC)) (hd : y.cls = RX8 ∧ y.cls ≠ "java/lang/invoke/MethodHandle" ∧ y.cls ≠ "java/lang/invoke/VarHandle" ∧ (parseMethodDescriptor y.desc).map (fun d => d.parameters.length) = some n) (hw : wsC = Cond.code y bytes maxL ret :: ws9) (hR : rm.frames + 1 ≤ R.frames ∧ 8 + (maxL + 11) + rm.locals ≤ R.locals) (hcs : rm.cells = 0 ∧ rm.slots = 0) (hP : va_P (dC, dI) vwCl (LW Z c0 m0 o) H) (hD : va_D A0 (LW Z c0 m0 o)) (hS : va_S A0 s.heap H locs) (hsize : ls.size = 9) (hnn : As.length = n) (hst0 : st0 = As.reverse ++ .ref (Z.ma 0) :: rest) (hroom : (rest.map fun v => v.category).sum ≤ 8) (hdg : decode cL_law pc = .ok (.invokevirtual index, 3)) (hcl : cells ≤ R.cells ∧ slots ≤ R.slots)
    (kk : ∀ (H1 : Heap) (locs1 : List Loc), va_P (dC, dI) vwCl (LW Z c0 m1 o) H1 → va_D A0 (LW Z c0 m1 o) → va_S A0 s.heap H1 locs1 → W p l e R s m args below meth c H1 locs1 cells slots Q (F0 m (pc + 3) ls (.float z :: rest))) : W p l e R s m args below meth c H locs cells slots Q (F0 m pc ls st0) := by
  have hKc : va_K (dC, dI) vwCl [(Z.kI, .int), (Z.kB, .byte), (Z.kZ, .boolean)] s := C.hK.sub [0, 3, 4] rfl
  have hPc := P_part (LW_m Z c0 m0 o) hP
  obtain ⟨cell, r1, r2, r3⟩ := va_recv (ci := 8) (q0 := 0) (a := (Z.ma 0)) hKc hPc rfl rfl
  have hDp := D_part (LW_m Z c0 m0 o) hD
  have hF : ∀ q, va_A (MW Z m0) H.size q → A0 q := all_A hDp hS C.hA
  have hDc : va_D (fun _ => True) (MW Z m0) := hDp.weaken (fun _ _ _ _ => trivial)
  refine va_callf (va_runV (As := As) (rest := rest) ⟨C.hx, C.hb, C.hml, C.hown, C.hts⟩ hM (cwV n C.hts hG hw hcs.1 hcs.2 hd hR) ⟨(rw_pre C.hNW hPc hDc hKc).1, ⟨cell, r1, r2, r3⟩, (rw_pre C.hNW hPc hDc hKc).2⟩ (g := F0 m pc ls st0) rfl hnn hsize hst0 (lv_room hroom) hdg ⟨hcl.1, hcl.2⟩) hS (fun q _ h => hF q h) hF (fun r u t H1 locs1 ht hvm hw hB hz hk hS1 => ?_)
  have hw : r = z := hw
  subst hw
  obtain ⟨h1, h2⟩ := hB
  rw [ht] at h1
  obtain ⟨g1, g2⟩ := fl_mix (LW_m Z c0 m0 o) hP hD hF hk h1 h2
  exact kk H1 locs1 (g1.perm (LW_m Z c0 m1 o).symm) (g2.perm (LW_m Z c0 m1 o).symm) hS1
theorem lqL {r : Int32} {mc ms : Nat} {hh : List (Nat × Nat × Nat × Nat)} (C : LC p l s m args c A0 K dC dI Z b L xs) (hM : Met l y wsC rm (va_Pc As (RWl K dC dI H.size (CW Z c0 ++ OWl Z o) [(Z.kI, .int), (Z.kE, .object "LzwCodec$Encoder"), (Z.kL, .long)])) (rwQi dC dI (va_A (CW Z c0 ++ OWl Z o) H.size) (CW Z c1 ++ OWl Z o1) r) mc ms (va_A (CW Z c0 ++ OWl Z o) H.size)) (hG : GoodIn wsL_law (va_wsS RL index y wsC)) (hd : y.cls = RL ∧ y.cls ≠ "java/lang/invoke/MethodHandle" ∧ y.cls ≠ "java/lang/invoke/VarHandle" ∧ (parseMethodDescriptor y.desc).map (fun d => d.parameters.length) = some n) (hw : wsC = Cond.codeWith y bytes maxL ret hh :: ws9) (hR : rm.frames + 1 ≤ R.frames ∧ 8 + (maxL + 11) + rm.locals ≤ R.locals) (hcs : rm.cells = mc ∧ rm.slots = ms) (hP : va_P (dC, dI) vwCl (LW Z c0 m0 o) H) (hD : va_D A0 (LW Z c0 m0 o)) (hS : va_S A0 s.heap H locs) (hsize : ls.size = 9) (hnn : As.length = n) (hst0 : st0 = As.reverse ++ rest) (hroom : (rest.map fun v => v.category).sum ≤ 8) (hdg : decode cL_law pc = .ok (.invokestatic index, 3)) (hcl : cells + mc ≤ R.cells ∧ slots + ms ≤ R.slots)
    (kk : ∀ (H1 : Heap) (locs1 : List Loc), va_P (dC, dI) vwCl (LW Z c1 m0 o1) H1 → va_D A0 (LW Z c1 m0 o1) → va_S A0 s.heap H1 locs1 → W p l e R s m args below meth c H1 locs1 (cells + mc) (slots + ms) Q (F0 m (pc + 3) ls (.int r :: rest))) : W p l e R s m args below meth c H locs cells slots Q (F0 m pc ls st0) :=
  l_S (As := As) (rest := rest) (C := RL) C.hx C.hb C.hml C.hown C.hts hM hG hd hw hR hcs C.hNW C.hCE C.hXN C.hXE hP hD hS C.hA (LW_l Z c0 m0 o) (LW_l Z c1 m0 o1).symm (C.hK.sub [0, 1, 2] rfl) hsize hnn hst0 hroom hdg hcl kk
theorem lqLv {r : Int32} {mc ms : Nat} {hh : List (Nat × Nat × Nat × Nat)} (C : LC p l s m args c A0 K dC dI Z b L xs) (hM : Met l y wsC rm (va_Pc As (RWl K dC dI H.size (CW Z c0) [(Z.kI, .int), (Z.kE, .object "LzwCodec$Encoder"), (Z.kL, .long)])) (rwQi dC dI (va_A (CW Z c0) H.size) (CW Z c1) r) mc ms (va_A (CW Z c0) H.size)) (hG : GoodIn wsL_law (va_wsS RL index y wsC)) (hd : y.cls = RL ∧ y.cls ≠ "java/lang/invoke/MethodHandle" ∧ y.cls ≠ "java/lang/invoke/VarHandle" ∧ (parseMethodDescriptor y.desc).map (fun d => d.parameters.length) = some n) (hw : wsC = Cond.codeWith y bytes maxL ret hh :: ws9) (hR : rm.frames + 1 ≤ R.frames ∧ 8 + (maxL + 11) + rm.locals ≤ R.locals) (hcs : rm.cells = mc ∧ rm.slots = ms) (hP : va_P (dC, dI) vwCl (LW Z c0 m0 o) H) (hD : va_D A0 (LW Z c0 m0 o)) (hS : va_S A0 s.heap H locs) (hsize : ls.size = 9) (hnn : As.length = n) (hst0 : st0 = As.reverse ++ rest) (hroom : (rest.map fun v => v.category).sum ≤ 8) (hdg : decode cL_law pc = .ok (.invokestatic index, 3)) (hcl : cells + mc ≤ R.cells ∧ slots + ms ≤ R.slots)
    (kk : ∀ (H1 : Heap) (locs1 : List Loc), va_P (dC, dI) vwCl (LW Z c1 m0 o) H1 → va_D A0 (LW Z c1 m0 o) → va_S A0 s.heap H1 locs1 → W p l e R s m args below meth c H1 locs1 (cells + mc) (slots + ms) Q (F0 m (pc + 3) ls (.int r :: rest))) : W p l e R s m args below meth c H locs cells slots Q (F0 m pc ls st0) :=
  l_S (As := As) (rest := rest) (C := RL) C.hx C.hb C.hml C.hown C.hts hM hG hd hw hR hcs C.hNW C.hCE C.hXN C.hXE hP hD hS C.hA (LW_c Z c0 m0 o) (LW_c Z c1 m0 o).symm (C.hK.sub [0, 1, 2] rfl) hsize hnn hst0 hroom hdg hcl kk
theorem lq_x (C : LC p l s m args c A0 K dC dI Z b L xs) (hS : va_S A0 s.heap H locs) {i : Int32} (hin : vp_in i L) (hdg : decode cL_law pc = .ok (.iaload, 1)) (kk : W p l e R s m args below meth c H locs cells slots Q (F0 m (pc + 1) ls (.int (xs i.toNatClampNeg) :: rest))) : W p l e R s m args below meth c H locs cells slots Q (F0 m pc ls (.int i :: .ref b :: rest)) :=
  va_sld C.hx C.hb C.hX C.hbl C.hbA hS hin hdg kk
theorem lq_o (C : LC p l s m args c A0 K dC dI Z b L xs) (hP : va_P (dC, dI) vwCl (LW Z c0 m0 o) H) (hdg : decode cL_law pc = .ok (.laload, 1)) (kk : W p l e R s m args below meth c H locs cells slots Q (F0 m (pc + 1) ls (.long (o 0) :: rest))) : W p l e R s m args below meth c H locs cells slots Q (F0 m pc ls (.int 0 :: .ref Z.q :: rest)) :=
  va_lald C.hx C.hb C.hK (hP.perm (LW_o Z c0 m0 o)) 0 2 rfl rfl (show ¬ ((0 : Int32) < 0 ∨ 1 ≤ (0 : Int32).toNatClampNeg) by decide) hdg kk
end LROWS
