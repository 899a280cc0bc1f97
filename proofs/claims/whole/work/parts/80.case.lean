/-- what goes on after a step -/
def LKK (p : Program) (l : Launch) (e : Env) (s : State) (m : MethodId) (args : Array Value) (below : List Frame) (meth : Method) (c : Code) (cells slots : Nat) (Q : State → Prop) (A0 : Nat → Prop) (dC : Nat → ClassId) (dI : Nat → Nat → Nat) (Z : AD) (b : Nat) (i : Int32) : Prop :=
  ∀ (c1 : CS) (m1 : MS) (o1 : Nat → Int64) (H : Heap) (locs : List Loc) (ls : Array Slot), REL c1 m1 → va_P (dC, dI) vwCl (LW Z c1 m1 o1) H → va_D A0 (LW Z c1 m1 o1) → va_S A0 s.heap H locs → lv_has ls 9 [(0, .ref b), (1, .ref (Z.ca 0)), (2, .ref (Z.ma 0)), (3, .ref Z.q), (4, .int i)] → W p l e room_1 s m args below meth c H locs cells slots Q (F0 m 2318 ls [])
theorem cmp_self (x : Int64) : lg_cmp x x = 0 := by
  unfold lg_cmp
  simp
section LCASES
variable {p : Program} {l : Launch} {e : Env} {s : State} {m : MethodId} {args : Array Value} {below : List Frame} {meth : Method} {c : Code} {H : Heap} {locs : List Loc} {cells slots : Nat} {Q : State → Prop}
variable {ls : Array Slot} {A0 : Nat → Prop} {K : KT} {dC : Nat → ClassId} {dI : Nat → Nat → Nat} {Z : AD} {b L : Nat} {xs : Nat → Int32} {c0 : CS} {m0 : MS} {o : Nat → Int64} {i : Int32} {fu : Nat}
set_option maxHeartbeats 4000000 in
set_option maxRecDepth 100000 in
theorem lc_0 (C : LC p l s m args c A0 K dC dI Z b L xs) (hf : 20000 ≤ fu) (hR : REL c0 m0) (hP : va_P (dC, dI) vwCl (LW Z c0 m0 o) H) (hD : va_D A0 (LW Z c0 m0 o)) (hS : va_S A0 s.heap H locs) (hl : lv_has ls 9 [(0, .ref b), (1, .ref (Z.ca 0)), (2, .ref (Z.ma 0)), (3, .ref Z.q), (4, .int i)]) (hi1 : vp_in (i + 1) L) (hi2 : vp_in (i + 2) L) (hi3 : vp_in (i + 3) L) (hi4 : vp_in (i + 4) L) (hi5 : vp_in (i + 5) L) (hcl : cells + 8 ≤ room_1.cells ∧ slots + 48 ≤ room_1.slots) (KK : LKK p l e s m args below meth c (cells + 8) (slots + 48) Q A0 dC dI Z b i) : W p l e room_1 s m args below meth c H locs cells slots Q (F0 m 296 ls []) := by
  obtain ⟨hc1, hc2⟩ := hcl
  obtain ⟨T, er, nd, tp, fd, ee, oo, tt, rr, sw, hh, tx, v, th, g, a, u, sl, kp, mm, P0, L0, sn, pv, r0, gn, vd, x1, x2, x3, x4, x5, x6, x7, txt, txd, bb, rfl, rfl, hTP, hDD, hST, hOF⟩ := hR
  have hRE := hST.1
  have hG := hST.2.1
  rcases t_append fu hf th hTP fd ee oo tt rr sw hh (xs (i + 1).toNatClampNeg) (xs (i + 2).toNatClampNeg) (xs (i + 3).toNatClampNeg) (xs (i + 4).toNatClampNeg) (xs (i + 5).toNatClampNeg) with ⟨w, f1, v1, T1, b1, e1, e2, hTP⟩ | ⟨e1, e2⟩
  · refine lv_aload_n C.hx C.hb dL_law_296 rfl (lv_at hl 1 rfl) ?_
    refine lv_aload_n C.hx C.hb dL_law_297 rfl (lv_at hl 0 rfl) ?_
    refine lv_iload C.hx C.hb dL_law_298 (lv_at hl 4 rfl) ?_
    refine lv_iconst (v := 1) C.hx C.hb dL_law_300 (by decide) ?_
    refine lv_iadd C.hx C.hb dL_law_301 ?_
    refine lq_x C hS hi1 dL_law_302 ?_
    refine lv_aload_n C.hx C.hb dL_law_303 rfl (lv_at hl 0 rfl) ?_
    refine lv_iload C.hx C.hb dL_law_304 (lv_at hl 4 rfl) ?_
    refine lv_iconst (v := 2) C.hx C.hb dL_law_306 (by decide) ?_
    refine lv_iadd C.hx C.hb dL_law_307 ?_
    refine lq_x C hS hi2 dL_law_308 ?_
    refine lv_aload_n C.hx C.hb dL_law_309 rfl (lv_at hl 0 rfl) ?_
    refine lv_iload C.hx C.hb dL_law_310 (lv_at hl 4 rfl) ?_
    refine lv_iconst (v := 3) C.hx C.hb dL_law_312 (by decide) ?_
    refine lv_iadd C.hx C.hb dL_law_313 ?_
    refine lq_x C hS hi3 dL_law_314 ?_
    refine lv_aload_n C.hx C.hb dL_law_315 rfl (lv_at hl 0 rfl) ?_
    refine lv_iload C.hx C.hb dL_law_316 (lv_at hl 4 rfl) ?_
    refine lv_iconst (v := 4) C.hx C.hb dL_law_318 (by decide) ?_
    refine lv_iadd C.hx C.hb dL_law_319 ?_
    refine lq_x C hS hi4 dL_law_320 ?_
    refine lv_aload_n C.hx C.hb dL_law_321 rfl (lv_at hl 0 rfl) ?_
    refine lv_iload C.hx C.hb dL_law_322 (lv_at hl 4 rfl) ?_
    refine lv_iconst (v := 5) C.hx C.hb dL_law_324 (by decide) ?_
    refine lv_iadd C.hx C.hb dL_law_325 ?_
    refine lq_x C hS hi5 dL_law_326 ?_
    refine lv_aload_n C.hx C.hb dL_law_327 rfl (lv_at hl 3 rfl) ?_
    refine lqL (r := 0) (c0 := ⟨nI T, er, nI nd, tp, fd, ee, oo, tt, rr, sw, hh, tx⟩) (c1 := ⟨nI T1, er, nI nd, f1, fd, ee, oo, tt, rr, sw, hh, tx⟩) (m0 := ⟨v, nI T, er, th, nW g, nW a, nW u, nW sl, nW kp, nI mm, nW P0, nW L0, sn, pv, nW r0, gn, vd, nI nd, x1, x2, x3, x4, x5, x6, x7, txt, txd⟩) (o := o) (o1 := (vp_updL o 0 w.toInt64)) (As := [.ref (Z.ca 0), .int (xs (i + 1).toNatClampNeg), .int (xs (i + 2).toNatClampNeg), .int (xs (i + 3).toNatClampNeg), .int (xs (i + 4).toNatClampNeg), .int (xs (i + 5).toNatClampNeg), .ref Z.q]) (rest := []) C (c_L_append fu l C.hl0 dC dI K Z.kI Z.kE Z.kL Z.ca Z.a Z.b Z.oa Z.ob Z.ra Z.sa Z.ha Z.ux Z.uy tx (nI T) er (nI nd) tp fd ee oo tt rr sw hh (xs (i + 1).toNatClampNeg) (xs (i + 2).toNatClampNeg) (xs (i + 3).toNatClampNeg) (xs (i + 4).toNatClampNeg) (xs (i + 5).toNatClampNeg) Z.q o H.size _ e1 0 (vp_updL o 0 w.toInt64) (Or.inl ⟨w, rfl, rfl, rfl⟩)) gL_law_L_append qL_append rfl ⟨(Nat.le_of_ble_eq_true rfl), (Nat.le_of_ble_eq_true rfl)⟩ ⟨rfl, rfl⟩ hP hD hS hl.1 rfl rfl (Nat.le_of_ble_eq_true rfl) dL_law_328 ⟨by omega, by omega⟩ (fun H locs hP hD hS => ?_)
    refine W.widen (k := cells + 8) (n := slots + 48) (by omega) (by omega) ?_
    refine lv_istore (lv' := [(5, .int 0), (0, .ref b), (1, .ref (Z.ca 0)), (2, .ref (Z.ma 0)), (3, .ref Z.q), (4, .int i)]) C.hx C.hb dL_law_331 hl (by decide) rfl (fun ls hl => ?_)
    refine lv_aload_n C.hx C.hb dL_law_333 rfl (lv_at hl 3 rfl) ?_
    refine lv_aload_n C.hx C.hb dL_law_334 rfl (lv_at hl 1 rfl) ?_
    refine lv_iload C.hx C.hb dL_law_335 (lv_at hl 5 rfl) ?_
    refine lv_iconst (v := 1) C.hx C.hb dL_law_337 (by decide) ?_
    refine lv_iadd C.hx C.hb dL_law_338 ?_
    refine lq_x C hS hi1 dL_law_339 ?_
    refine lv_aload_n C.hx C.hb dL_law_340 rfl (lv_at hl 1 rfl) ?_
    refine lv_iload C.hx C.hb dL_law_341 (lv_at hl 5 rfl) ?_
    refine lv_iconst (v := 2) C.hx C.hb dL_law_343 (by decide) ?_
    refine lv_iadd C.hx C.hb dL_law_344 ?_
    refine lq_x C hS hi2 dL_law_345 ?_
    refine lv_aload_n C.hx C.hb dL_law_346 rfl (lv_at hl 1 rfl) ?_
    refine lv_iload C.hx C.hb dL_law_347 (lv_at hl 5 rfl) ?_
    refine lv_iconst (v := 3) C.hx C.hb dL_law_349 (by decide) ?_
    refine lv_iadd C.hx C.hb dL_law_350 ?_
    refine lq_x C hS hi3 dL_law_351 ?_
    refine lv_aload_n C.hx C.hb dL_law_352 rfl (lv_at hl 1 rfl) ?_
    refine lv_iload C.hx C.hb dL_law_353 (lv_at hl 5 rfl) ?_
    refine lv_iconst (v := 4) C.hx C.hb dL_law_355 (by decide) ?_
    refine lv_iadd C.hx C.hb dL_law_356 ?_
    refine lq_x C hS hi4 dL_law_357 ?_
    refine lv_aload_n C.hx C.hb dL_law_358 rfl (lv_at hl 1 rfl) ?_
    refine lv_iload C.hx C.hb dL_law_359 (lv_at hl 5 rfl) ?_
    refine lv_iconst (v := 5) C.hx C.hb dL_law_361 (by decide) ?_
    refine lv_iadd C.hx C.hb dL_law_362 ?_
    refine lq_x C hS hi5 dL_law_363 ?_
    refine lqMi (z := w) (c0 := ⟨nI T1, er, nI nd, f1, fd, ee, oo, tt, rr, sw, hh, tx⟩) (m0 := ⟨v, nI T, er, th, nW g, nW a, nW u, nW sl, nW kp, nI mm, nW P0, nW L0, sn, pv, nW r0, gn, vd, nI nd, x1, x2, x3, x4, x5, x6, x7, txt, txd⟩) (m1 := ⟨v1, nI T1, er, nI 0, nW g, nW a, nW u, nW sl, nW kp, nI mm, nW P0, nW L0, sn, pv, nW r0, gn, vd, nI nd, x1, x2, x3, x4, x5, x6, x7, txt, txd⟩) (o := (vp_updL o 0 w.toInt64)) (As := [.int (xs (i + 1).toNatClampNeg), .int (xs (i + 2).toNatClampNeg), .int (xs (i + 3).toNatClampNeg), .int (xs (i + 4).toNatClampNeg), .int (xs (i + 5).toNatClampNeg)]) (rest := []) C (c_X8_append fu l dC dI Z.kI Z.kB Z.kZ Z.ma v (nI T) er th (nW g) (nW a) (nW u) (nW sl) (nW kp) (nI mm) (nW P0) (nW L0) sn pv (nW r0) gn vd (nI nd) x1 x2 x3 x4 x5 x6 x7 txt txd (xs (i + 1).toNatClampNeg) (xs (i + 2).toNatClampNeg) (xs (i + 3).toNatClampNeg) (xs (i + 4).toNatClampNeg) (xs (i + 5).toNatClampNeg) H.size _ e2) gL_law_X8_append qX8_append rfl ⟨(Nat.le_of_ble_eq_true rfl), (Nat.le_of_ble_eq_true rfl)⟩ ⟨rfl, rfl⟩ hP hD hS hl.1 rfl rfl (Nat.le_of_ble_eq_true rfl) dL_law_364 ⟨by omega, by omega⟩ (fun H locs hP hD hS => ?_)
    refine lv_istore (lv' := [(6, .int w), (5, .int 0), (0, .ref b), (1, .ref (Z.ca 0)), (2, .ref (Z.ma 0)), (3, .ref Z.q), (4, .int i)]) C.hx C.hb dL_law_367 hl (by decide) rfl (fun ls hl => ?_)
    refine lv_aload_n C.hx C.hb dL_law_369 rfl (lv_at hl 4 rfl) ?_
    refine lqMo (z := nI 0) (c0 := ⟨nI T1, er, nI nd, f1, fd, ee, oo, tt, rr, sw, hh, tx⟩) (m0 := ⟨v1, nI T1, er, nI 0, nW g, nW a, nW u, nW sl, nW kp, nI mm, nW P0, nW L0, sn, pv, nW r0, gn, vd, nI nd, x1, x2, x3, x4, x5, x6, x7, txt, txd⟩) (o := (vp_updL o 0 w.toInt64)) (As := []) (rest := []) C (c_X8_thrown l dC dI Z.kI Z.kB Z.kZ Z.ma v1 (nI T1) er (nI 0) (nW g) (nW a) (nW u) (nW sl) (nW kp) (nI mm) (nW P0) (nW L0) sn pv (nW r0) gn vd (nI nd) x1 x2 x3 x4 x5 x6 x7 txt txd (nI 0) rfl) gL_law_X8_thrown qX8_thrown rfl ⟨(Nat.le_of_ble_eq_true rfl), (Nat.le_of_ble_eq_true rfl)⟩ ⟨rfl, rfl⟩ hP hD hS hl.1 rfl rfl (Nat.le_of_ble_eq_true rfl) dL_law_370 ⟨by omega, by omega⟩ (fun H locs hP hD hS => ?_)
    refine lv_iload C.hx C.hb dL_law_373 (lv_at hl 1 rfl) ?_
    refine lv_icmp_eq (tgt := 380) C.hx C.hb dL_law_375 (by decide) (fun _ => ?_) (fun h9 => absurd (by first | rfl | decide) h9)
    refine lv_iload C.hx C.hb dL_law_380 (lv_at hl 1 rfl) ?_
    refine lv_if_ne (tgt := 397) C.hx C.hb dL_law_382 (by decide) (fun h9 => absurd rfl h9) (fun _ => ?_)
    refine lv_aload_n C.hx C.hb dL_law_385 rfl (lv_at hl 5 rfl) ?_
    refine lv_iconst (v := 0) C.hx C.hb dL_law_386 (by decide) ?_
    refine lq_o C hP dL_law_387 ?_
    refine lv_iload C.hx C.hb dL_law_388 (lv_at hl 0 rfl) ?_
    refine lv_i2l (v := w.toInt64) C.hx C.hb dL_law_390 rfl ?_
    refine W.lcmp C.hx C.hb dL_law_391 ?_
    refine lv_if_eq (tgt := 397) C.hx C.hb dL_law_392 (by decide) (fun _ => ?_) (fun h9 => absurd (cmp_self _) h9)
    refine lv_goto (tgt := 2318) C.hx C.hb dL_law_397 (by decide) ?_
    exact KK ⟨nI T1, er, nI nd, f1, fd, ee, oo, tt, rr, sw, hh, tx⟩ ⟨v1, nI T1, er, nI 0, nW g, nW a, nW u, nW sl, nW kp, nI mm, nW P0, nW L0, sn, pv, nW r0, gn, vd, nI nd, x1, x2, x3, x4, x5, x6, x7, txt, txd⟩ (vp_updL o 0 w.toInt64) H locs ls ⟨T1, er, nd, f1, fd, ee, oo, tt, rr, sw, hh, tx, v1, nI 0, g, a, u, sl, kp, mm, P0, L0, sn, pv, r0, gn, vd, x1, x2, x3, x4, x5, x6, x7, txt, txd, b1, rfl, rfl, hTP, hDD, hST, hOF⟩ hP hD hS (lv_sub hl [2, 3, 4, 5, 6] rfl)
  · refine lv_aload_n C.hx C.hb dL_law_296 rfl (lv_at hl 1 rfl) ?_
    refine lv_aload_n C.hx C.hb dL_law_297 rfl (lv_at hl 0 rfl) ?_
    refine lv_iload C.hx C.hb dL_law_298 (lv_at hl 4 rfl) ?_
    refine lv_iconst (v := 1) C.hx C.hb dL_law_300 (by decide) ?_
    refine lv_iadd C.hx C.hb dL_law_301 ?_
    refine lq_x C hS hi1 dL_law_302 ?_
    refine lv_aload_n C.hx C.hb dL_law_303 rfl (lv_at hl 0 rfl) ?_
    refine lv_iload C.hx C.hb dL_law_304 (lv_at hl 4 rfl) ?_
    refine lv_iconst (v := 2) C.hx C.hb dL_law_306 (by decide) ?_
    refine lv_iadd C.hx C.hb dL_law_307 ?_
    refine lq_x C hS hi2 dL_law_308 ?_
    refine lv_aload_n C.hx C.hb dL_law_309 rfl (lv_at hl 0 rfl) ?_
    refine lv_iload C.hx C.hb dL_law_310 (lv_at hl 4 rfl) ?_
    refine lv_iconst (v := 3) C.hx C.hb dL_law_312 (by decide) ?_
    refine lv_iadd C.hx C.hb dL_law_313 ?_
    refine lq_x C hS hi3 dL_law_314 ?_
    refine lv_aload_n C.hx C.hb dL_law_315 rfl (lv_at hl 0 rfl) ?_
    refine lv_iload C.hx C.hb dL_law_316 (lv_at hl 4 rfl) ?_
    refine lv_iconst (v := 4) C.hx C.hb dL_law_318 (by decide) ?_
    refine lv_iadd C.hx C.hb dL_law_319 ?_
    refine lq_x C hS hi4 dL_law_320 ?_
    refine lv_aload_n C.hx C.hb dL_law_321 rfl (lv_at hl 0 rfl) ?_
    refine lv_iload C.hx C.hb dL_law_322 (lv_at hl 4 rfl) ?_
    refine lv_iconst (v := 5) C.hx C.hb dL_law_324 (by decide) ?_
    refine lv_iadd C.hx C.hb dL_law_325 ?_
    refine lq_x C hS hi5 dL_law_326 ?_
    refine lv_aload_n C.hx C.hb dL_law_327 rfl (lv_at hl 3 rfl) ?_
    refine lqL (r := 1) (c0 := ⟨nI T, er, nI nd, tp, fd, ee, oo, tt, rr, sw, hh, tx⟩) (c1 := ⟨nI T, er, nI nd, tp, fd, ee, oo, tt, rr, sw, hh, tx⟩) (m0 := ⟨v, nI T, er, th, nW g, nW a, nW u, nW sl, nW kp, nI mm, nW P0, nW L0, sn, pv, nW r0, gn, vd, nI nd, x1, x2, x3, x4, x5, x6, x7, txt, txd⟩) (o := o) (o1 := o) (As := [.ref (Z.ca 0), .int (xs (i + 1).toNatClampNeg), .int (xs (i + 2).toNatClampNeg), .int (xs (i + 3).toNatClampNeg), .int (xs (i + 4).toNatClampNeg), .int (xs (i + 5).toNatClampNeg), .ref Z.q]) (rest := []) C (c_L_append fu l C.hl0 dC dI K Z.kI Z.kE Z.kL Z.ca Z.a Z.b Z.oa Z.ob Z.ra Z.sa Z.ha Z.ux Z.uy tx (nI T) er (nI nd) tp fd ee oo tt rr sw hh (xs (i + 1).toNatClampNeg) (xs (i + 2).toNatClampNeg) (xs (i + 3).toNatClampNeg) (xs (i + 4).toNatClampNeg) (xs (i + 5).toNatClampNeg) Z.q o H.size _ e1 1 o (Or.inr ⟨rfl, rfl, rfl⟩)) gL_law_L_append qL_append rfl ⟨(Nat.le_of_ble_eq_true rfl), (Nat.le_of_ble_eq_true rfl)⟩ ⟨rfl, rfl⟩ hP hD hS hl.1 rfl rfl (Nat.le_of_ble_eq_true rfl) dL_law_328 ⟨by omega, by omega⟩ (fun H locs hP hD hS => ?_)
    refine W.widen (k := cells + 8) (n := slots + 48) (by omega) (by omega) ?_
    refine lv_istore (lv' := [(5, .int 1), (0, .ref b), (1, .ref (Z.ca 0)), (2, .ref (Z.ma 0)), (3, .ref Z.q), (4, .int i)]) C.hx C.hb dL_law_331 hl (by decide) rfl (fun ls hl => ?_)
    refine lv_aload_n C.hx C.hb dL_law_333 rfl (lv_at hl 3 rfl) ?_
    refine lv_aload_n C.hx C.hb dL_law_334 rfl (lv_at hl 1 rfl) ?_
    refine lv_iload C.hx C.hb dL_law_335 (lv_at hl 5 rfl) ?_
    refine lv_iconst (v := 1) C.hx C.hb dL_law_337 (by decide) ?_
    refine lv_iadd C.hx C.hb dL_law_338 ?_
    refine lq_x C hS hi1 dL_law_339 ?_
    refine lv_aload_n C.hx C.hb dL_law_340 rfl (lv_at hl 1 rfl) ?_
    refine lv_iload C.hx C.hb dL_law_341 (lv_at hl 5 rfl) ?_
    refine lv_iconst (v := 2) C.hx C.hb dL_law_343 (by decide) ?_
    refine lv_iadd C.hx C.hb dL_law_344 ?_
    refine lq_x C hS hi2 dL_law_345 ?_
    refine lv_aload_n C.hx C.hb dL_law_346 rfl (lv_at hl 1 rfl) ?_
    refine lv_iload C.hx C.hb dL_law_347 (lv_at hl 5 rfl) ?_
    refine lv_iconst (v := 3) C.hx C.hb dL_law_349 (by decide) ?_
    refine lv_iadd C.hx C.hb dL_law_350 ?_
    refine lq_x C hS hi3 dL_law_351 ?_
    refine lv_aload_n C.hx C.hb dL_law_352 rfl (lv_at hl 1 rfl) ?_
    refine lv_iload C.hx C.hb dL_law_353 (lv_at hl 5 rfl) ?_
    refine lv_iconst (v := 4) C.hx C.hb dL_law_355 (by decide) ?_
    refine lv_iadd C.hx C.hb dL_law_356 ?_
    refine lq_x C hS hi4 dL_law_357 ?_
    refine lv_aload_n C.hx C.hb dL_law_358 rfl (lv_at hl 1 rfl) ?_
    refine lv_iload C.hx C.hb dL_law_359 (lv_at hl 5 rfl) ?_
    refine lv_iconst (v := 5) C.hx C.hb dL_law_361 (by decide) ?_
    refine lv_iadd C.hx C.hb dL_law_362 ?_
    refine lq_x C hS hi5 dL_law_363 ?_
    refine lqMi (z := nI 0) (c0 := ⟨nI T, er, nI nd, tp, fd, ee, oo, tt, rr, sw, hh, tx⟩) (m0 := ⟨v, nI T, er, th, nW g, nW a, nW u, nW sl, nW kp, nI mm, nW P0, nW L0, sn, pv, nW r0, gn, vd, nI nd, x1, x2, x3, x4, x5, x6, x7, txt, txd⟩) (m1 := ⟨v, nI T, er, nI 1, nW g, nW a, nW u, nW sl, nW kp, nI mm, nW P0, nW L0, sn, pv, nW r0, gn, vd, nI nd, x1, x2, x3, x4, x5, x6, x7, txt, txd⟩) (o := o) (As := [.int (xs (i + 1).toNatClampNeg), .int (xs (i + 2).toNatClampNeg), .int (xs (i + 3).toNatClampNeg), .int (xs (i + 4).toNatClampNeg), .int (xs (i + 5).toNatClampNeg)]) (rest := []) C (c_X8_append fu l dC dI Z.kI Z.kB Z.kZ Z.ma v (nI T) er th (nW g) (nW a) (nW u) (nW sl) (nW kp) (nI mm) (nW P0) (nW L0) sn pv (nW r0) gn vd (nI nd) x1 x2 x3 x4 x5 x6 x7 txt txd (xs (i + 1).toNatClampNeg) (xs (i + 2).toNatClampNeg) (xs (i + 3).toNatClampNeg) (xs (i + 4).toNatClampNeg) (xs (i + 5).toNatClampNeg) H.size _ e2) gL_law_X8_append qX8_append rfl ⟨(Nat.le_of_ble_eq_true rfl), (Nat.le_of_ble_eq_true rfl)⟩ ⟨rfl, rfl⟩ hP hD hS hl.1 rfl rfl (Nat.le_of_ble_eq_true rfl) dL_law_364 ⟨by omega, by omega⟩ (fun H locs hP hD hS => ?_)
    refine lv_istore (lv' := [(6, .int (nI 0)), (5, .int 1), (0, .ref b), (1, .ref (Z.ca 0)), (2, .ref (Z.ma 0)), (3, .ref Z.q), (4, .int i)]) C.hx C.hb dL_law_367 hl (by decide) rfl (fun ls hl => ?_)
    refine lv_aload_n C.hx C.hb dL_law_369 rfl (lv_at hl 4 rfl) ?_
    refine lqMo (z := nI 1) (c0 := ⟨nI T, er, nI nd, tp, fd, ee, oo, tt, rr, sw, hh, tx⟩) (m0 := ⟨v, nI T, er, nI 1, nW g, nW a, nW u, nW sl, nW kp, nI mm, nW P0, nW L0, sn, pv, nW r0, gn, vd, nI nd, x1, x2, x3, x4, x5, x6, x7, txt, txd⟩) (o := o) (As := []) (rest := []) C (c_X8_thrown l dC dI Z.kI Z.kB Z.kZ Z.ma v (nI T) er (nI 1) (nW g) (nW a) (nW u) (nW sl) (nW kp) (nI mm) (nW P0) (nW L0) sn pv (nW r0) gn vd (nI nd) x1 x2 x3 x4 x5 x6 x7 txt txd (nI 1) rfl) gL_law_X8_thrown qX8_thrown rfl ⟨(Nat.le_of_ble_eq_true rfl), (Nat.le_of_ble_eq_true rfl)⟩ ⟨rfl, rfl⟩ hP hD hS hl.1 rfl rfl (Nat.le_of_ble_eq_true rfl) dL_law_370 ⟨by omega, by omega⟩ (fun H locs hP hD hS => ?_)
    refine lv_iload C.hx C.hb dL_law_373 (lv_at hl 1 rfl) ?_
    refine lv_icmp_eq (tgt := 380) C.hx C.hb dL_law_375 (by decide) (fun _ => ?_) (fun h9 => absurd (by first | rfl | decide) h9)
    refine lv_iload C.hx C.hb dL_law_380 (lv_at hl 1 rfl) ?_
    refine lv_if_ne (tgt := 397) C.hx C.hb dL_law_382 (by decide) (fun _ => ?_) (fun h9 => absurd h9 (by decide))
    refine lv_goto (tgt := 2318) C.hx C.hb dL_law_397 (by decide) ?_
    exact KK ⟨nI T, er, nI nd, tp, fd, ee, oo, tt, rr, sw, hh, tx⟩ ⟨v, nI T, er, nI 1, nW g, nW a, nW u, nW sl, nW kp, nI mm, nW P0, nW L0, sn, pv, nW r0, gn, vd, nI nd, x1, x2, x3, x4, x5, x6, x7, txt, txd⟩ o H locs ls ⟨T, er, nd, tp, fd, ee, oo, tt, rr, sw, hh, tx, v, nI 1, g, a, u, sl, kp, mm, P0, L0, sn, pv, r0, gn, vd, x1, x2, x3, x4, x5, x6, x7, txt, txd, bb, rfl, rfl, hTP, hDD, hST, hOF⟩ hP hD hS (lv_sub hl [2, 3, 4, 5, 6] rfl)
set_option maxHeartbeats 4000000 in
set_option maxRecDepth 100000 in
theorem lc_7 (C : LC p l s m args c A0 K dC dI Z b L xs) (hf : 20000 ≤ fu) (hR : REL c0 m0) (hP : va_P (dC, dI) vwCl (LW Z c0 m0 o) H) (hD : va_D A0 (LW Z c0 m0 o)) (hS : va_S A0 s.heap H locs) (hl : lv_has ls 9 [(0, .ref b), (1, .ref (Z.ca 0)), (2, .ref (Z.ma 0)), (3, .ref Z.q), (4, .int i)])  (hcl : cells + 8 ≤ room_1.cells ∧ slots + 48 ≤ room_1.slots) (KK : LKK p l e s m args below meth c (cells + 8) (slots + 48) Q A0 dC dI Z b i) : W p l e room_1 s m args below meth c H locs cells slots Q (F0 m 657 ls []) := by
  obtain ⟨hc1, hc2⟩ := hcl
  obtain ⟨T, er, nd, tp, fd, ee, oo, tt, rr, sw, hh, tx, v, th, g, a, u, sl, kp, mm, P0, L0, sn, pv, r0, gn, vd, x1, x2, x3, x4, x5, x6, x7, txt, txd, bb, rfl, rfl, hTP, hDD, hST, hOF⟩ := hR
  have hRE := hST.1
  have hG := hST.2.1
  obtain ⟨w, ee1, hh1, g1, a1, u1, m1, e1, e2, hST⟩ := t_flush fu hf th hST a
  refine lv_aload_n C.hx C.hb dL_law_657 rfl (lv_at hl 1 rfl) ?_
  refine lqWi (z := w) (c0 := ⟨nI T, er, nI nd, tp, fd, ee, oo, tt, rr, sw, hh, tx⟩) (c1 := ⟨nI T, er, nI nd, tp, fd, ee1, oo, tt, rr, sw, hh1, tx⟩) (m0 := ⟨v, nI T, er, th, nW g, nW a, nW u, nW sl, nW kp, nI mm, nW P0, nW L0, sn, pv, nW r0, gn, vd, nI nd, x1, x2, x3, x4, x5, x6, x7, txt, txd⟩) (o := o) (As := []) (rest := []) C (c_X7_flush fu l dC dI Z.kI Z.kE Z.ca Z.a Z.b Z.oa Z.ob Z.ra Z.sa Z.ha Z.ux Z.uy tx (nI T) er (nI nd) tp fd ee oo tt rr sw hh H.size _ e1) gL_law_X7_flush qX7_flush rfl ⟨(Nat.le_of_ble_eq_true rfl), (Nat.le_of_ble_eq_true rfl)⟩ ⟨rfl, rfl⟩ hP hD hS hl.1 rfl rfl (Nat.le_of_ble_eq_true rfl) dL_law_658 ⟨by omega, by omega⟩ (fun H locs hP hD hS => ?_)
  refine lv_aload_n C.hx C.hb dL_law_661 rfl (lv_at hl 2 rfl) ?_
  refine lqMi (z := w) (c0 := ⟨nI T, er, nI nd, tp, fd, ee1, oo, tt, rr, sw, hh1, tx⟩) (m0 := ⟨v, nI T, er, th, nW g, nW a, nW u, nW sl, nW kp, nI mm, nW P0, nW L0, sn, pv, nW r0, gn, vd, nI nd, x1, x2, x3, x4, x5, x6, x7, txt, txd⟩) (m1 := ⟨v, nI T, er, nI 0, nW g1, nW a1, nW u1, nW sl, nW kp, nI m1, nW P0, nW L0, sn, pv, nW r0, gn, vd, nI nd, x1, x2, x3, x4, x5, x6, x7, txt, txd⟩) (o := o) (As := []) (rest := [.int w]) C (c_X8_flush fu l dC dI Z.kI Z.kB Z.kZ Z.ma v (nI T) er th (nW g) (nW a) (nW u) (nW sl) (nW kp) (nI mm) (nW P0) (nW L0) sn pv (nW r0) gn vd (nI nd) x1 x2 x3 x4 x5 x6 x7 txt txd H.size _ e2) gL_law_X8_flush qX8_flush rfl ⟨(Nat.le_of_ble_eq_true rfl), (Nat.le_of_ble_eq_true rfl)⟩ ⟨rfl, rfl⟩ hP hD hS hl.1 rfl rfl (Nat.le_of_ble_eq_true rfl) dL_law_662 ⟨by omega, by omega⟩ (fun H locs hP hD hS => ?_)
  refine lv_icmp_eq (tgt := 2318) C.hx C.hb dL_law_665 (by decide) (fun _ => ?_) (fun h9 => absurd (by first | rfl | decide) h9)
  refine W.widen (k := cells + 8) (n := slots + 48) (by omega) (by omega) ?_
  exact KK ⟨nI T, er, nI nd, tp, fd, ee1, oo, tt, rr, sw, hh1, tx⟩ ⟨v, nI T, er, nI 0, nW g1, nW a1, nW u1, nW sl, nW kp, nI m1, nW P0, nW L0, sn, pv, nW r0, gn, vd, nI nd, x1, x2, x3, x4, x5, x6, x7, txt, txd⟩ o H locs ls ⟨T, er, nd, tp, fd, ee1, oo, tt, rr, sw, hh1, tx, v, nI 0, g1, a1, u1, sl, kp, m1, P0, L0, sn, pv, r0, gn, vd, x1, x2, x3, x4, x5, x6, x7, txt, txd, bb, rfl, rfl, hTP, hDD, hST, hOF⟩ hP hD hS (lv_sub hl [0, 1, 2, 3, 4] rfl)
set_option maxHeartbeats 4000000 in
set_option maxRecDepth 100000 in
theorem lc_14 (C : LC p l s m args c A0 K dC dI Z b L xs) (hf : 20000 ≤ fu) (hR : REL c0 m0) (hP : va_P (dC, dI) vwCl (LW Z c0 m0 o) H) (hD : va_D A0 (LW Z c0 m0 o)) (hS : va_S A0 s.heap H locs) (hl : lv_has ls 9 [(0, .ref b), (1, .ref (Z.ca 0)), (2, .ref (Z.ma 0)), (3, .ref Z.q), (4, .int i)])  (hcl : cells + 8 ≤ room_1.cells ∧ slots + 48 ≤ room_1.slots) (KK : LKK p l e s m args below meth c (cells + 8) (slots + 48) Q A0 dC dI Z b i) : W p l e room_1 s m args below meth c H locs cells slots Q (F0 m 931 ls []) := by
  obtain ⟨hc1, hc2⟩ := hcl
  obtain ⟨T, er, nd, tp, fd, ee, oo, tt, rr, sw, hh, tx, v, th, g, a, u, sl, kp, mm, P0, L0, sn, pv, r0, gn, vd, x1, x2, x3, x4, x5, x6, x7, txt, txd, bb, rfl, rfl, hTP, hDD, hST, hOF⟩ := hR
  have hRE := hST.1
  have hG := hST.2.1
  obtain ⟨w, e1, e2⟩ := (t_looks0 fu hf th hRE hG).1
  refine lv_aload_n C.hx C.hb dL_law_931 rfl (lv_at hl 1 rfl) ?_
  refine lqRi (z := w) (c0 := ⟨nI T, er, nI nd, tp, fd, ee, oo, tt, rr, sw, hh, tx⟩) (m0 := ⟨v, nI T, er, th, nW g, nW a, nW u, nW sl, nW kp, nI mm, nW P0, nW L0, sn, pv, nW r0, gn, vd, nI nd, x1, x2, x3, x4, x5, x6, x7, txt, txd⟩) (o := o) (As := []) (rest := []) C (c_X7_alphabetSize l dC dI Z.kI Z.kE Z.ca Z.a Z.b Z.oa Z.ob Z.ra Z.sa Z.ha Z.ux Z.uy tx (nI T) er (nI nd) tp fd ee oo tt rr sw hh _ e1) gL_law_X7_alphabetSize qX7_alphabetSize rfl ⟨(Nat.le_of_ble_eq_true rfl), (Nat.le_of_ble_eq_true rfl)⟩ ⟨rfl, rfl⟩ hP hD hS hl.1 rfl rfl (Nat.le_of_ble_eq_true rfl) dL_law_932 ⟨by omega, by omega⟩ (fun H locs hP hD hS => ?_)
  refine lv_aload_n C.hx C.hb dL_law_935 rfl (lv_at hl 2 rfl) ?_
  refine lqMi (z := w) (c0 := ⟨nI T, er, nI nd, tp, fd, ee, oo, tt, rr, sw, hh, tx⟩) (m0 := ⟨v, nI T, er, th, nW g, nW a, nW u, nW sl, nW kp, nI mm, nW P0, nW L0, sn, pv, nW r0, gn, vd, nI nd, x1, x2, x3, x4, x5, x6, x7, txt, txd⟩) (m1 := ⟨v, nI T, er, nI 0, nW g, nW a, nW u, nW sl, nW kp, nI mm, nW P0, nW L0, sn, pv, nW r0, gn, vd, nI nd, x1, x2, x3, x4, x5, x6, x7, txt, txd⟩) (o := o) (As := []) (rest := [.int w]) C (c_X8_alphabetSize l dC dI Z.kI Z.kB Z.kZ Z.ma v (nI T) er th (nW g) (nW a) (nW u) (nW sl) (nW kp) (nI mm) (nW P0) (nW L0) sn pv (nW r0) gn vd (nI nd) x1 x2 x3 x4 x5 x6 x7 txt txd H.size _ e2) gL_law_X8_alphabetSize qX8_alphabetSize rfl ⟨(Nat.le_of_ble_eq_true rfl), (Nat.le_of_ble_eq_true rfl)⟩ ⟨rfl, rfl⟩ hP hD hS hl.1 rfl rfl (Nat.le_of_ble_eq_true rfl) dL_law_936 ⟨by omega, by omega⟩ (fun H locs hP hD hS => ?_)
  refine lv_icmp_eq (tgt := 2318) C.hx C.hb dL_law_939 (by decide) (fun _ => ?_) (fun h9 => absurd (by first | rfl | decide) h9)
  refine W.widen (k := cells + 8) (n := slots + 48) (by omega) (by omega) ?_
  exact KK ⟨nI T, er, nI nd, tp, fd, ee, oo, tt, rr, sw, hh, tx⟩ ⟨v, nI T, er, nI 0, nW g, nW a, nW u, nW sl, nW kp, nI mm, nW P0, nW L0, sn, pv, nW r0, gn, vd, nI nd, x1, x2, x3, x4, x5, x6, x7, txt, txd⟩ o H locs ls ⟨T, er, nd, tp, fd, ee, oo, tt, rr, sw, hh, tx, v, nI 0, g, a, u, sl, kp, mm, P0, L0, sn, pv, r0, gn, vd, x1, x2, x3, x4, x5, x6, x7, txt, txd, bb, rfl, rfl, hTP, hDD, hST, hOF⟩ hP hD hS (lv_sub hl [0, 1, 2, 3, 4] rfl)
set_option maxHeartbeats 4000000 in
set_option maxRecDepth 100000 in
theorem lc_11 (C : LC p l s m args c A0 K dC dI Z b L xs) (hf : 20000 ≤ fu) (hR : REL c0 m0) (hP : va_P (dC, dI) vwCl (LW Z c0 m0 o) H) (hD : va_D A0 (LW Z c0 m0 o)) (hS : va_S A0 s.heap H locs) (hl : lv_has ls 9 [(0, .ref b), (1, .ref (Z.ca 0)), (2, .ref (Z.ma 0)), (3, .ref Z.q), (4, .int i)]) (hi1 : vp_in (i + 1) L) (hcl : cells + 8 ≤ room_1.cells ∧ slots + 48 ≤ room_1.slots) (KK : LKK p l e s m args below meth c (cells + 8) (slots + 48) Q A0 dC dI Z b i) : W p l e room_1 s m args below meth c H locs cells slots Q (F0 m 795 ls []) := by
  obtain ⟨hc1, hc2⟩ := hcl
  obtain ⟨T, er, nd, tp, fd, ee, oo, tt, rr, sw, hh, tx, v, th, g, a, u, sl, kp, mm, P0, L0, sn, pv, r0, gn, vd, x1, x2, x3, x4, x5, x6, x7, txt, txd, bb, rfl, rfl, hTP, hDD, hST, hOF⟩ := hR
  have hRE := hST.1
  have hG := hST.2.1
  rcases t_save fu hf th hST (xs (i + 1).toNatClampNeg) with ⟨hh1, sl1, kp1, e1, e2, hST⟩ | ⟨e1, e2⟩
  · refine lv_aload_n C.hx C.hb dL_law_795 rfl (lv_at hl 1 rfl) ?_
    refine lv_aload_n C.hx C.hb dL_law_796 rfl (lv_at hl 0 rfl) ?_
    refine lv_iload C.hx C.hb dL_law_797 (lv_at hl 4 rfl) ?_
    refine lv_iconst (v := 1) C.hx C.hb dL_law_799 (by decide) ?_
    refine lv_iadd C.hx C.hb dL_law_800 ?_
    refine lq_x C hS hi1 dL_law_801 ?_
    refine lqLv (r := 0) (c0 := ⟨nI T, er, nI nd, tp, fd, ee, oo, tt, rr, sw, hh, tx⟩) (c1 := ⟨nI T, er, nI nd, tp, fd, ee, oo, tt, rr, sw, hh1, tx⟩) (m0 := ⟨v, nI T, er, th, nW g, nW a, nW u, nW sl, nW kp, nI mm, nW P0, nW L0, sn, pv, nW r0, gn, vd, nI nd, x1, x2, x3, x4, x5, x6, x7, txt, txd⟩) (o := o) (As := [.ref (Z.ca 0), .int (xs (i + 1).toNatClampNeg)]) (rest := []) C (c_L_save l C.hl0 dC dI K Z.kI Z.kE Z.kL Z.ca Z.a Z.b Z.oa Z.ob Z.ra Z.sa Z.ha Z.ux Z.uy tx (nI T) er (nI nd) tp fd ee oo tt rr sw hh (xs (i + 1).toNatClampNeg) H.size _ e1 0 (Or.inl ⟨rfl, rfl⟩)) gL_law_L_save qL_save rfl ⟨(Nat.le_of_ble_eq_true rfl), (Nat.le_of_ble_eq_true rfl)⟩ ⟨rfl, rfl⟩ hP hD hS hl.1 rfl rfl (Nat.le_of_ble_eq_true rfl) dL_law_802 ⟨by omega, by omega⟩ (fun H locs hP hD hS => ?_)
    refine W.widen (k := cells + 8) (n := slots + 48) (by omega) (by omega) ?_
    refine lv_istore (lv' := [(5, .int 0), (0, .ref b), (1, .ref (Z.ca 0)), (2, .ref (Z.ma 0)), (3, .ref Z.q), (4, .int i)]) C.hx C.hb dL_law_805 hl (by decide) rfl (fun ls hl => ?_)
    refine lv_aload_n C.hx C.hb dL_law_807 rfl (lv_at hl 3 rfl) ?_
    refine lv_aload_n C.hx C.hb dL_law_808 rfl (lv_at hl 1 rfl) ?_
    refine lv_iload C.hx C.hb dL_law_809 (lv_at hl 5 rfl) ?_
    refine lv_iconst (v := 1) C.hx C.hb dL_law_811 (by decide) ?_
    refine lv_iadd C.hx C.hb dL_law_812 ?_
    refine lq_x C hS hi1 dL_law_813 ?_
    refine lqMv (c0 := ⟨nI T, er, nI nd, tp, fd, ee, oo, tt, rr, sw, hh1, tx⟩) (m0 := ⟨v, nI T, er, th, nW g, nW a, nW u, nW sl, nW kp, nI mm, nW P0, nW L0, sn, pv, nW r0, gn, vd, nI nd, x1, x2, x3, x4, x5, x6, x7, txt, txd⟩) (m1 := ⟨v, nI T, er, nI 0, nW g, nW a, nW u, nW sl1, nW kp1, nI mm, nW P0, nW L0, sn, pv, nW r0, gn, vd, nI nd, x1, x2, x3, x4, x5, x6, x7, txt, txd⟩) (o := o) (As := [.int (xs (i + 1).toNatClampNeg)]) (rest := []) C (c_X8_save fu l dC dI Z.kI Z.kB Z.kZ Z.ma v (nI T) er th (nW g) (nW a) (nW u) (nW sl) (nW kp) (nI mm) (nW P0) (nW L0) sn pv (nW r0) gn vd (nI nd) x1 x2 x3 x4 x5 x6 x7 txt txd (xs (i + 1).toNatClampNeg) H.size _ e2) gL_law_X8_save qX8_save rfl ⟨(Nat.le_of_ble_eq_true rfl), (Nat.le_of_ble_eq_true rfl)⟩ ⟨rfl, rfl⟩ hP hD hS hl.1 rfl rfl (Nat.le_of_ble_eq_true rfl) dL_law_814 ⟨by omega, by omega⟩ (fun H locs hP hD hS => ?_)
    refine lv_aload_n C.hx C.hb dL_law_817 rfl (lv_at hl 3 rfl) ?_
    refine lqMo (z := nI 0) (c0 := ⟨nI T, er, nI nd, tp, fd, ee, oo, tt, rr, sw, hh1, tx⟩) (m0 := ⟨v, nI T, er, nI 0, nW g, nW a, nW u, nW sl1, nW kp1, nI mm, nW P0, nW L0, sn, pv, nW r0, gn, vd, nI nd, x1, x2, x3, x4, x5, x6, x7, txt, txd⟩) (o := o) (As := []) (rest := []) C (c_X8_thrown l dC dI Z.kI Z.kB Z.kZ Z.ma v (nI T) er (nI 0) (nW g) (nW a) (nW u) (nW sl1) (nW kp1) (nI mm) (nW P0) (nW L0) sn pv (nW r0) gn vd (nI nd) x1 x2 x3 x4 x5 x6 x7 txt txd (nI 0) rfl) gL_law_X8_thrown qX8_thrown rfl ⟨(Nat.le_of_ble_eq_true rfl), (Nat.le_of_ble_eq_true rfl)⟩ ⟨rfl, rfl⟩ hP hD hS hl.1 rfl rfl (Nat.le_of_ble_eq_true rfl) dL_law_818 ⟨by omega, by omega⟩ (fun H locs hP hD hS => ?_)
    refine lv_iload C.hx C.hb dL_law_821 (lv_at hl 0 rfl) ?_
    refine lv_icmp_eq (tgt := 828) C.hx C.hb dL_law_823 (by decide) (fun _ => ?_) (fun h9 => absurd (by first | rfl | decide) h9)
    refine lv_goto (tgt := 2318) C.hx C.hb dL_law_828 (by decide) ?_
    exact KK ⟨nI T, er, nI nd, tp, fd, ee, oo, tt, rr, sw, hh1, tx⟩ ⟨v, nI T, er, nI 0, nW g, nW a, nW u, nW sl1, nW kp1, nI mm, nW P0, nW L0, sn, pv, nW r0, gn, vd, nI nd, x1, x2, x3, x4, x5, x6, x7, txt, txd⟩ o H locs ls ⟨T, er, nd, tp, fd, ee, oo, tt, rr, sw, hh1, tx, v, nI 0, g, a, u, sl1, kp1, mm, P0, L0, sn, pv, r0, gn, vd, x1, x2, x3, x4, x5, x6, x7, txt, txd, bb, rfl, rfl, hTP, hDD, hST, hOF⟩ hP hD hS (lv_sub hl [1, 2, 3, 4, 5] rfl)
  · refine lv_aload_n C.hx C.hb dL_law_795 rfl (lv_at hl 1 rfl) ?_
    refine lv_aload_n C.hx C.hb dL_law_796 rfl (lv_at hl 0 rfl) ?_
    refine lv_iload C.hx C.hb dL_law_797 (lv_at hl 4 rfl) ?_
    refine lv_iconst (v := 1) C.hx C.hb dL_law_799 (by decide) ?_
    refine lv_iadd C.hx C.hb dL_law_800 ?_
    refine lq_x C hS hi1 dL_law_801 ?_
    refine lqLv (r := 1) (c0 := ⟨nI T, er, nI nd, tp, fd, ee, oo, tt, rr, sw, hh, tx⟩) (c1 := ⟨nI T, er, nI nd, tp, fd, ee, oo, tt, rr, sw, hh, tx⟩) (m0 := ⟨v, nI T, er, th, nW g, nW a, nW u, nW sl, nW kp, nI mm, nW P0, nW L0, sn, pv, nW r0, gn, vd, nI nd, x1, x2, x3, x4, x5, x6, x7, txt, txd⟩) (o := o) (As := [.ref (Z.ca 0), .int (xs (i + 1).toNatClampNeg)]) (rest := []) C (c_L_save l C.hl0 dC dI K Z.kI Z.kE Z.kL Z.ca Z.a Z.b Z.oa Z.ob Z.ra Z.sa Z.ha Z.ux Z.uy tx (nI T) er (nI nd) tp fd ee oo tt rr sw hh (xs (i + 1).toNatClampNeg) H.size _ e1 1 (Or.inr ⟨rfl, rfl⟩)) gL_law_L_save qL_save rfl ⟨(Nat.le_of_ble_eq_true rfl), (Nat.le_of_ble_eq_true rfl)⟩ ⟨rfl, rfl⟩ hP hD hS hl.1 rfl rfl (Nat.le_of_ble_eq_true rfl) dL_law_802 ⟨by omega, by omega⟩ (fun H locs hP hD hS => ?_)
    refine W.widen (k := cells + 8) (n := slots + 48) (by omega) (by omega) ?_
    refine lv_istore (lv' := [(5, .int 1), (0, .ref b), (1, .ref (Z.ca 0)), (2, .ref (Z.ma 0)), (3, .ref Z.q), (4, .int i)]) C.hx C.hb dL_law_805 hl (by decide) rfl (fun ls hl => ?_)
    refine lv_aload_n C.hx C.hb dL_law_807 rfl (lv_at hl 3 rfl) ?_
    refine lv_aload_n C.hx C.hb dL_law_808 rfl (lv_at hl 1 rfl) ?_
    refine lv_iload C.hx C.hb dL_law_809 (lv_at hl 5 rfl) ?_
    refine lv_iconst (v := 1) C.hx C.hb dL_law_811 (by decide) ?_
    refine lv_iadd C.hx C.hb dL_law_812 ?_
    refine lq_x C hS hi1 dL_law_813 ?_
    refine lqMv (c0 := ⟨nI T, er, nI nd, tp, fd, ee, oo, tt, rr, sw, hh, tx⟩) (m0 := ⟨v, nI T, er, th, nW g, nW a, nW u, nW sl, nW kp, nI mm, nW P0, nW L0, sn, pv, nW r0, gn, vd, nI nd, x1, x2, x3, x4, x5, x6, x7, txt, txd⟩) (m1 := ⟨v, nI T, er, nI 1, nW g, nW a, nW u, nW sl, nW kp, nI mm, nW P0, nW L0, sn, pv, nW r0, gn, vd, nI nd, x1, x2, x3, x4, x5, x6, x7, txt, txd⟩) (o := o) (As := [.int (xs (i + 1).toNatClampNeg)]) (rest := []) C (c_X8_save fu l dC dI Z.kI Z.kB Z.kZ Z.ma v (nI T) er th (nW g) (nW a) (nW u) (nW sl) (nW kp) (nI mm) (nW P0) (nW L0) sn pv (nW r0) gn vd (nI nd) x1 x2 x3 x4 x5 x6 x7 txt txd (xs (i + 1).toNatClampNeg) H.size _ e2) gL_law_X8_save qX8_save rfl ⟨(Nat.le_of_ble_eq_true rfl), (Nat.le_of_ble_eq_true rfl)⟩ ⟨rfl, rfl⟩ hP hD hS hl.1 rfl rfl (Nat.le_of_ble_eq_true rfl) dL_law_814 ⟨by omega, by omega⟩ (fun H locs hP hD hS => ?_)
    refine lv_aload_n C.hx C.hb dL_law_817 rfl (lv_at hl 3 rfl) ?_
    refine lqMo (z := nI 1) (c0 := ⟨nI T, er, nI nd, tp, fd, ee, oo, tt, rr, sw, hh, tx⟩) (m0 := ⟨v, nI T, er, nI 1, nW g, nW a, nW u, nW sl, nW kp, nI mm, nW P0, nW L0, sn, pv, nW r0, gn, vd, nI nd, x1, x2, x3, x4, x5, x6, x7, txt, txd⟩) (o := o) (As := []) (rest := []) C (c_X8_thrown l dC dI Z.kI Z.kB Z.kZ Z.ma v (nI T) er (nI 1) (nW g) (nW a) (nW u) (nW sl) (nW kp) (nI mm) (nW P0) (nW L0) sn pv (nW r0) gn vd (nI nd) x1 x2 x3 x4 x5 x6 x7 txt txd (nI 1) rfl) gL_law_X8_thrown qX8_thrown rfl ⟨(Nat.le_of_ble_eq_true rfl), (Nat.le_of_ble_eq_true rfl)⟩ ⟨rfl, rfl⟩ hP hD hS hl.1 rfl rfl (Nat.le_of_ble_eq_true rfl) dL_law_818 ⟨by omega, by omega⟩ (fun H locs hP hD hS => ?_)
    refine lv_iload C.hx C.hb dL_law_821 (lv_at hl 0 rfl) ?_
    refine lv_icmp_eq (tgt := 828) C.hx C.hb dL_law_823 (by decide) (fun _ => ?_) (fun h9 => absurd (by first | rfl | decide) h9)
    refine lv_goto (tgt := 2318) C.hx C.hb dL_law_828 (by decide) ?_
    exact KK ⟨nI T, er, nI nd, tp, fd, ee, oo, tt, rr, sw, hh, tx⟩ ⟨v, nI T, er, nI 1, nW g, nW a, nW u, nW sl, nW kp, nI mm, nW P0, nW L0, sn, pv, nW r0, gn, vd, nI nd, x1, x2, x3, x4, x5, x6, x7, txt, txd⟩ o H locs ls ⟨T, er, nd, tp, fd, ee, oo, tt, rr, sw, hh, tx, v, nI 1, g, a, u, sl, kp, mm, P0, L0, sn, pv, r0, gn, vd, x1, x2, x3, x4, x5, x6, x7, txt, txd, bb, rfl, rfl, hTP, hDD, hST, hOF⟩ hP hD hS (lv_sub hl [1, 2, 3, 4, 5] rfl)
end LCASES
