/-- what goes on after a step -/
def LKK (p : Program) (l : Launch) (e : Env) (s : State) (m : MethodId) (args : Array Value) (below : List Frame) (meth : Method) (c : Code) (cells slots : Nat) (Q : State → Prop) (A0 : Nat → Prop) (dC : Nat → ClassId) (dI : Nat → Nat → Nat) (Z : AD) (b : Nat) (i : Int32) : Prop :=
  ∀ (c1 : CS) (m1 : MS) (o1 : Nat → Int64) (H : Heap) (locs : List Loc) (ls : Array Slot), REL c1 m1 → va_P (dC, dI) vwCl (LW Z c1 m1 o1) H → va_D A0 (LW Z c1 m1 o1) → va_S A0 s.heap H locs → lv_has ls 9 [(0, .ref b), (1, .ref (Z.ca 0)), (2, .ref (Z.ma 0)), (3, .ref Z.q), (4, .int i)] → W p l e room_1 s m args below meth c H locs cells slots Q (F0 m 2318 ls [])
theorem cmp_self (x : Int64) : lg_cmp x x = 0 := by
  unfold lg_cmp
  simp
section LCASES0
variable {p : Program} {l : Launch} {e : Env} {s : State} {m : MethodId} {args : Array Value} {below : List Frame} {meth : Method} {c : Code} {H : Heap} {locs : List Loc} {cells slots : Nat} {Q : State → Prop}
variable {ls : Array Slot} {A0 : Nat → Prop} {K : KT} {dC : Nat → ClassId} {dI : Nat → Nat → Nat} {Z : AD} {b L : Nat} {xs : Nat → Int32} {c0 : CS} {m0 : MS} {o : Nat → Int64} {i : Int32} {fu : Nat}
set_option maxHeartbeats 4000000 in
set_option maxRecDepth 100000 in
theorem lc_0 (C : LC p l s m args c A0 K dC dI Z b L xs) (hf : 20000 ≤ fu) (hR : REL c0 m0) (hP : va_P (dC, dI) vwCl (LW Z c0 m0 o) H) (hD : va_D A0 (LW Z c0 m0 o)) (hS : va_S A0 s.heap H locs) (hl : lv_has ls 9 [(0, .ref b), (1, .ref (Z.ca 0)), (2, .ref (Z.ma 0)), (3, .ref Z.q), (4, .int i)]) (hi1 : vp_in (i + 1) L) (hi2 : vp_in (i + 2) L) (hi3 : vp_in (i + 3) L) (hi4 : vp_in (i + 4) L) (hi5 : vp_in (i + 5) L) (hcl : cells + 8 ≤ room_1.cells ∧ slots + 48 ≤ room_1.slots) (KK : LKK p l e s m args below meth c (cells + 8) (slots + 48) Q A0 dC dI Z b i) : W p l e room_1 s m args below meth c H locs cells slots Q (F0 m 296 ls []) := by
  obtain ⟨hc1, hc2⟩ := hcl
  obtain ⟨T, er, nd, tp, fd, ee, oo, tt, rr, sw, hh, tx, v, th, g, a, u, sl, kp, mm, P0, L0, sn, pv, r0, gn, vd, x1, x2, x3, x4, x5, x6, x7, txt, txd, bb, rfl, rfl, hTP, hDD, hST, hOF⟩ := hR
  have hRE := hST.1
  have hG := hST.2.1
  rcases t_append fu hf th hTP fd ee oo tt rr sw hh (xs (i + 1).toNatClampNeg) (xs (i + 2).toNatClampNeg) (xs (i + 3).toNatClampNeg) (xs (i + 4).toNatClampNeg) (xs (i + 5).toNatClampNeg) with ⟨w, f1, v1, T1, b1, e1, e2, hTP⟩ | ⟨e1, e2⟩
  · refine lv_aload_n C.hx C.hb dL_law_296 rfl (lv_at hl 1 rfl) ?_
    refine lv_aload_n C.hx C.hb dL_law_297 rfl (lv_at hl 0 rfl) ?_
    refine lv_iload C.hx C.hb dL_law_298 (lv_at hl 4 rfl) ?_
    refine lv_iconst (v := 1) C.hx C.hb dL_law_300 (by decide) ?_
    refine lv_iadd C.hx C.hb dL_law_301 ?_
    refine lq_x C hS hi1 dL_law_302 ?_
    refine lv_aload_n C.hx C.hb dL_law_303 rfl (lv_at hl 0 rfl) ?_
    refine lv_iload C.hx C.hb dL_law_304 (lv_at hl 4 rfl) ?_
    refine lv_iconst (v := 2) C.hx C.hb dL_law_306 (by decide) ?_
    refine lv_iadd C.hx C.hb dL_law_307 ?_
    refine lq_x C hS hi2 dL_law_308 ?_
    refine lv_aload_n C.hx C.hb dL_law_309 rfl (lv_at hl 0 rfl) ?_
    refine lv_iload C.hx C.hb dL_law_310 (lv_at hl 4 rfl) ?_
    refine lv_iconst (v := 3) C.hx C.hb dL_law_312 (by decide) ?_
    refine lv_iadd C.hx C.hb dL_law_313 ?_
    refine lq_x C hS hi3 dL_law_314 ?_
    refine lv_aload_n C.hx C.hb dL_law_315 rfl (lv_at hl 0 rfl) ?_
    refine lv_iload C.hx C.hb dL_law_316 (lv_at hl 4 rfl) ?_
    refine lv_iconst (v := 4) C.hx C.hb dL_law_318 (by decide) ?_
    refine lv_iadd C.hx C.hb dL_law_319 ?_
    refine lq_x C hS hi4 dL_law_320 ?_
    refine lv_aload_n C.hx C.hb dL_law_321 rfl (lv_at hl 0 rfl) ?_
    refine lv_iload C.hx C.hb dL_law_322 (lv_at hl 4 rfl) ?_
    refine lv_iconst (v := 5) C.hx C.hb dL_law_324 (by decide) ?_
    refine lv_iadd C.hx C.hb dL_law_325 ?_
    refine lq_x C hS hi5 dL_law_326 ?_
    refine lv_aload_n C.hx C.hb dL_law_327 rfl (lv_at hl 3 rfl) ?_
    refine lqL (r := 0) (c0 := ⟨nI T, er, nI nd, tp, fd, ee, oo, tt, rr, sw, hh, tx⟩) (c1 := ⟨nI T1, er, nI nd, f1, fd, ee, oo, tt, rr, sw, hh, tx⟩) (m0 := ⟨v, nI T, er, th, nW g, nW a, nW u, nW sl, nW kp, nI mm, nW P0, nW L0, sn, pv, nW r0, gn, vd, nI nd, x1, x2, x3, x4, x5, x6, x7, txt, txd⟩) (o := o) (o1 := (vp_updL o 0 w.toInt64)) (As := [.ref (Z.ca 0), .int (xs (i + 1).toNatClampNeg), .int (xs (i + 2).toNatClampNeg), .int (xs (i + 3).toNatClampNeg), .int (xs (i + 4).toNatClampNeg), .int (xs (i + 5).toNatClampNeg), .ref Z.q]) (rest := []) C (c_L_append fu l C.hl0 dC dI K Z.kI Z.kE Z.kL Z.ca Z.a Z.b Z.oa Z.ob Z.ra Z.sa Z.ha Z.ux Z.uy tx (nI T) er (nI nd) tp fd ee oo tt rr sw hh (xs (i + 1).toNatClampNeg) (xs (i + 2).toNatClampNeg) (xs (i + 3).toNatClampNeg) (xs (i + 4).toNatClampNeg) (xs (i + 5).toNatClampNeg) Z.q o H.size _ e1 0 (vp_updL o 0 w.toInt64) (Or.inl ⟨w, rfl, rfl, rfl⟩)) gL_law_L_append qL_append rfl ⟨(Nat.le_of_ble_eq_true rfl), (Nat.le_of_ble_eq_true rfl)⟩ ⟨rfl, rfl⟩ hP hD hS hl.1 rfl rfl (Nat.le_of_ble_eq_true rfl) dL_law_328 ⟨by omega, by omega⟩ (fun H locs hP hD hS => ?_)
    refine W.widen (k := cells + 8) (n := slots + 48) (by omega) (by omega) ?_
    refine lv_istore (lv' := [(5, .int 0), (0, .ref b), (1, .ref (Z.ca 0)), (2, .ref (Z.ma 0)), (3, .ref Z.q), (4, .int i)]) C.hx C.hb dL_law_331 hl (by decide) rfl (fun ls hl => ?_)
    refine lv_aload_n C.hx C.hb dL_law_333 rfl (lv_at hl 3 rfl) ?_
    refine lv_aload_n C.hx C.hb dL_law_334 rfl (lv_at hl 1 rfl) ?_
    refine lv_iload C.hx C.hb dL_law_335 (lv_at hl 5 rfl) ?_
    refine lv_iconst (v := 1) C.hx C.hb dL_law_337 (by decide) ?_
    refine lv_iadd C.hx C.hb dL_law_338 ?_
    refine lq_x C hS hi1 dL_law_339 ?_
    refine lv_aload_n C.hx C.hb dL_law_340 rfl (lv_at hl 1 rfl) ?_
    refine lv_iload C.hx C.hb dL_law_341 (lv_at hl 5 rfl) ?_
    refine lv_iconst (v := 2) C.hx C.hb dL_law_343 (by decide) ?_
    refine lv_iadd C.hx C.hb dL_law_344 ?_
    refine lq_x C hS hi2 dL_law_345 ?_
    refine lv_aload_n C.hx C.hb dL_law_346 rfl (lv_at hl 1 rfl) ?_
    refine lv_iload C.hx C.hb dL_law_347 (lv_at hl 5 rfl) ?_
    refine lv_iconst (v := 3) C.hx C.hb dL_law_349 (by decide) ?_
    refine lv_iadd C.hx C.hb dL_law_350 ?_
    refine lq_x C hS hi3 dL_law_351 ?_
    refine lv_aload_n C.hx C.hb dL_law_352 rfl (lv_at hl 1 rfl) ?_
    refine lv_iload C.hx C.hb dL_law_353 (lv_at hl 5 rfl) ?_
    refine lv_iconst (v := 4) C.hx C.hb dL_law_355 (by decide) ?_
    refine lv_iadd C.hx C.hb dL_law_356 ?_
    refine lq_x C hS hi4 dL_law_357 ?_
    refine lv_aload_n C.hx C.hb dL_law_358 rfl (lv_at hl 1 rfl) ?_
    refine lv_iload C.hx C.hb dL_law_359 (lv_at hl 5 rfl) ?_
    refine lv_iconst (v := 5) C.hx C.hb dL_law_361 (by decide) ?_
    refine lv_iadd C.hx C.hb dL_law_362 ?_
    refine lq_x C hS hi5 dL_law_363 ?_
    refine lqMi (z := w) (c0 := ⟨nI T1, er, nI nd, f1, fd, ee, oo, tt, rr, sw, hh, tx⟩) (m0 := ⟨v, nI T, er, th, nW g, nW a, nW u, nW sl, nW kp, nI mm, nW P0, nW L0, sn, pv, nW r0, gn, vd, nI nd, x1, x2, x3, x4, x5, x6, x7, txt, txd⟩) (m1 := ⟨v1, nI T1, er, nI 0, nW g, nW a, nW u, nW sl, nW kp, nI mm, nW P0, nW L0, sn, pv, nW r0, gn, vd, nI nd, x1, x2, x3, x4, x5, x6, x7, txt, txd⟩) (o := (vp_updL o 0 w.toInt64)) (As := [.int (xs (i + 1).toNatClampNeg), .int (xs (i + 2).toNatClampNeg), .int (xs (i + 3).toNatClampNeg), .int (xs (i + 4).toNatClampNeg), .int (xs (i + 5).toNatClampNeg)]) (rest := []) C (c_X8_append fu l dC dI Z.kI Z.kB Z.kZ Z.ma v (nI T) er th (nW g) (nW a) (nW u) (nW sl) (nW kp) (nI mm) (nW P0) (nW L0) sn pv (nW r0) gn vd (nI nd) x1 x2 x3 x4 x5 x6 x7 txt txd (xs (i + 1).toNatClampNeg) (xs (i + 2).toNatClampNeg) (xs (i + 3).toNatClampNeg) (xs (i + 4).toNatClampNeg) (xs (i + 5).toNatClampNeg) H.size _ e2) gL_law_X8_append qX8_append rfl ⟨(Nat.le_of_ble_eq_true rfl), (Nat.le_of_ble_eq_true rfl)⟩ ⟨rfl, rfl⟩ hP hD hS hl.1 rfl rfl (Nat.le_of_ble_eq_true rfl) dL_law_364 ⟨by omega, by omega⟩ (fun H locs hP hD hS => ?_)
    refine lv_istore (lv' := [(6, .int w), (5, .int 0), (0, .ref b), (1, .ref (Z.ca 0)), (2, .ref (Z.ma 0)), (3, .ref Z.q), (4, .int i)]) C.hx C.hb dL_law_367 hl (by decide) rfl (fun ls hl => ?_)
    refine lv_aload_n C.hx C.hb dL_law_369 rfl (lv_at hl 4 rfl) ?_
    refine lqMo (z := nI 0) (c0 := ⟨nI T1, er, nI nd, f1, fd, ee, oo, tt, rr, sw, hh, tx⟩) (m0 := ⟨v1, nI T1, er, nI 0, nW g, nW a, nW u, nW sl, nW kp, nI mm, nW P0, nW L0, sn, pv, nW r0, gn, vd, nI nd, x1, x2, x3, x4, x5, x6, x7, txt, txd⟩) (o := (vp_updL o 0 w.toInt64)) (As := []) (rest := []) C (c_X8_thrown l dC dI Z.kI Z.kB Z.kZ Z.ma v1 (nI T1) er (nI 0) (nW g) (nW a) (nW u) (nW sl) (nW kp) (nI mm) (nW P0) (nW L0) sn pv (nW r0) gn vd (nI nd) x1 x2 x3 x4 x5 x6 x7 txt txd (nI 0) rfl) gL_law_X8_thrown qX8_thrown rfl ⟨(Nat.le_of_ble_eq_true rfl), (Nat.le_of_ble_eq_true rfl)⟩ ⟨rfl, rfl⟩ hP hD hS hl.1 rfl rfl (Nat.le_of_ble_eq_true rfl) dL_law_370 ⟨by omega, by omega⟩ (fun H locs hP hD hS => ?_)
    refine lv_iload C.hx C.hb dL_law_373 (lv_at hl 1 rfl) ?_
    refine lv_icmp_eq (tgt := 380) C.hx C.hb dL_law_375 (by decide) (fun _ => ?_) (fun h9 => absurd (by first | rfl | decide) h9)
    refine lv_iload C.hx C.hb dL_law_380 (lv_at hl 1 rfl) ?_
    refine lv_if_ne (tgt := 397) C.hx C.hb dL_law_382 (by decide) (fun h9 => absurd rfl h9) (fun _ => ?_)
    refine lv_aload_n C.hx C.hb dL_law_385 rfl (lv_at hl 5 rfl) ?_
    refine lv_iconst (v := 0) C.hx C.hb dL_law_386 (by decide) ?_
    refine lq_o C hP dL_law_387 ?_
    refine lv_iload C.hx C.hb dL_law_388 (lv_at hl 0 rfl) ?_
    refine lv_i2l (v := w.toInt64) C.hx C.hb dL_law_390 rfl ?_
    refine W.lcmp C.hx C.hb dL_law_391 ?_
    refine lv_if_eq (tgt := 397) C.hx C.hb dL_law_392 (by decide) (fun _ => ?_) (fun h9 => absurd (cmp_self _) h9)
    refine lv_goto (tgt := 2318) C.hx C.hb dL_law_397 (by decide) ?_
    exact KK ⟨nI T1, er, nI nd, f1, fd, ee, oo, tt, rr, sw, hh, tx⟩ ⟨v1, nI T1, er, nI 0, nW g, nW a, nW u, nW sl, nW kp, nI mm, nW P0, nW L0, sn, pv, nW r0, gn, vd, nI nd, x1, x2, x3, x4, x5, x6, x7, txt, txd⟩ (vp_updL o 0 w.toInt64) H locs ls ⟨T1, er, nd, f1, fd, ee, oo, tt, rr, sw, hh, tx, v1, nI 0, g, a, u, sl, kp, mm, P0, L0, sn, pv, r0, gn, vd, x1, x2, x3, x4, x5, x6, x7, txt, txd, b1, rfl, rfl, hTP, hDD, hST, hOF⟩ hP hD hS (lv_sub hl [2, 3, 4, 5, 6] rfl)
  · refine lv_aload_n C.hx C.hb dL_law_296 rfl (lv_at hl 1 rfl) ?_
    refine lv_aload_n C.hx C.hb dL_law_297 rfl (lv_at hl 0 rfl) ?_
    refine lv_iload C.hx C.hb dL_law_298 (lv_at hl 4 rfl) ?_
    refine lv_iconst (v := 1) C.hx C.hb dL_law_300 (by decide) ?_
    refine lv_iadd C.hx C.hb dL_law_301 ?_
    refine lq_x C hS hi1 dL_law_302 ?_
    refine lv_aload_n C.hx C.hb dL_law_303 rfl (lv_at hl 0 rfl) ?_
    refine lv_iload C.hx C.hb dL_law_304 (lv_at hl 4 rfl) ?_
    refine lv_iconst (v := 2) C.hx C.hb dL_law_306 (by decide) ?_
    refine lv_iadd C.hx C.hb dL_law_307 ?_
    refine lq_x C hS hi2 dL_law_308 ?_
    refine lv_aload_n C.hx C.hb dL_law_309 rfl (lv_at hl 0 rfl) ?_
    refine lv_iload C.hx C.hb dL_law_310 (lv_at hl 4 rfl) ?_
    refine lv_iconst (v := 3) C.hx C.hb dL_law_312 (by decide) ?_
    refine lv_iadd C.hx C.hb dL_law_313 ?_
    refine lq_x C hS hi3 dL_law_314 ?_
    refine lv_aload_n C.hx C.hb dL_law_315 rfl (lv_at hl 0 rfl) ?_
    refine lv_iload C.hx C.hb dL_law_316 (lv_at hl 4 rfl) ?_
    refine lv_iconst (v := 4) C.hx C.hb dL_law_318 (by decide) ?_
    refine lv_iadd C.hx C.hb dL_law_319 ?_
    refine lq_x C hS hi4 dL_law_320 ?_
    refine lv_aload_n C.hx C.hb dL_law_321 rfl (lv_at hl 0 rfl) ?_
    refine lv_iload C.hx C.hb dL_law_322 (lv_at hl 4 rfl) ?_
    refine lv_iconst (v := 5) C.hx C.hb dL_law_324 (by decide) ?_
    refine lv_iadd C.hx C.hb dL_law_325 ?_
    refine lq_x C hS hi5 dL_law_326 ?_
    refine lv_aload_n C.hx C.hb dL_law_327 rfl (lv_at hl 3 rfl) ?_
    refine lqL (r := 1) (c0 := ⟨nI T, er, nI nd, tp, fd, ee, oo, tt, rr, sw, hh, tx⟩) (c1 := ⟨nI T, er, nI nd, tp, fd, ee, oo, tt, rr, sw, hh, tx⟩) (m0 := ⟨v, nI T, er, th, nW g, nW a, nW u, nW sl, nW kp, nI mm, nW P0, nW L0, sn, pv, nW r0, gn, vd, nI nd, x1, x2, x3, x4, x5, x6, x7, txt, txd⟩) (o := o) (o1 := o) (As := [.ref (Z.ca 0), .int (xs (i + 1).toNatClampNeg), .int (xs (i + 2).toNatClampNeg), .int (xs (i + 3).toNatClampNeg), .int (xs (i + 4).toNatClampNeg), .int (xs (i + 5).toNatClampNeg), .ref Z.q]) (rest := []) C (c_L_append fu l C.hl0 dC dI K Z.kI Z.kE Z.kL Z.ca Z.a Z.b Z.oa Z.ob Z.ra Z.sa Z.ha Z.ux Z.uy tx (nI T) er (nI nd) tp fd ee oo tt rr sw hh (xs (i + 1).toNatClampNeg) (xs (i + 2).toNatClampNeg) (xs (i + 3).toNatClampNeg) (xs (i + 4).toNatClampNeg) (xs (i + 5).toNatClampNeg) Z.q o H.size _ e1 1 o (Or.inr ⟨rfl, rfl, rfl⟩)) gL_law_L_append qL_append rfl ⟨(Nat.le_of_ble_eq_true rfl), (Nat.le_of_ble_eq_true rfl)⟩ ⟨rfl, rfl⟩ hP hD hS hl.1 rfl rfl (Nat.le_of_ble_eq_true rfl) dL_law_328 ⟨by omega, by omega⟩ (fun H locs hP hD hS => ?_)
    refine W.widen (k := cells + 8) (n := slots + 48) (by omega) (by omega) ?_
    refine lv_istore (lv' := [(5, .int 1), (0, .ref b), (1, .ref (Z.ca 0)), (2, .ref (Z.ma 0)), (3, .ref Z.q), (4, .int i)]) C.hx C.hb dL_law_331 hl (by decide) rfl (fun ls hl => ?_)
    refine lv_aload_n C.hx C.hb dL_law_333 rfl (lv_at hl 3 rfl) ?_
    refine lv_aload_n C.hx C.hb dL_law_334 rfl (lv_at hl 1 rfl) ?_
    refine lv_iload C.hx C.hb dL_law_335 (lv_at hl 5 rfl) ?_
    refine lv_iconst (v := 1) C.hx C.hb dL_law_337 (by decide) ?_
    refine lv_iadd C.hx C.hb dL_law_338 ?_
    refine lq_x C hS hi1 dL_law_339 ?_
    refine lv_aload_n C.hx C.hb dL_law_340 rfl (lv_at hl 1 rfl) ?_
    refine lv_iload C.hx C.hb dL_law_341 (lv_at hl 5 rfl) ?_
    refine lv_iconst (v := 2) C.hx C.hb dL_law_343 (by decide) ?_
    refine lv_iadd C.hx C.hb dL_law_344 ?_
    refine lq_x C hS hi2 dL_law_345 ?_
    refine lv_aload_n C.hx C.hb dL_law_346 rfl (lv_at hl 1 rfl) ?_
    refine lv_iload C.hx C.hb dL_law_347 (lv_at hl 5 rfl) ?_
    refine lv_iconst (v := 3) C.hx C.hb dL_law_349 (by decide) ?_
    refine lv_iadd C.hx C.hb dL_law_350 ?_
    refine lq_x C hS hi3 dL_law_351 ?_
    refine lv_aload_n C.hx C.hb dL_law_352 rfl (lv_at hl 1 rfl) ?_
    refine lv_iload C.hx C.hb dL_law_353 (lv_at hl 5 rfl) ?_
    refine lv_iconst (v := 4) C.hx C.hb dL_law_355 (by decide) ?_
    refine lv_iadd C.hx C.hb dL_law_356 ?_
    refine lq_x C hS hi4 dL_law_357 ?_
    refine lv_aload_n C.hx C.hb dL_law_358 rfl (lv_at hl 1 rfl) ?_
    refine lv_iload C.hx C.hb dL_law_359 (lv_at hl 5 rfl) ?_
    refine lv_iconst (v := 5) C.hx C.hb dL_law_361 (by decide) ?_
    refine lv_iadd C.hx C.hb dL_law_362 ?_
    refine lq_x C hS hi5 dL_law_363 ?_
    refine lqMi (z := nI 0) (c0 := ⟨nI T, er, nI nd, tp, fd, ee, oo, tt, rr, sw, hh, tx⟩) (m0 := ⟨v, nI T, er, th, nW g, nW a, nW u, nW sl, nW kp, nI mm, nW P0, nW L0, sn, pv, nW r0, gn, vd, nI nd, x1, x2, x3, x4, x5, x6, x7, txt, txd⟩) (m1 := ⟨v, nI T, er, nI 1, nW g, nW a, nW u, nW sl, nW kp, nI mm, nW P0, nW L0, sn, pv, nW r0, gn, vd, nI nd, x1, x2, x3, x4, x5, x6, x7, txt, txd⟩) (o := o) (As := [.int (xs (i + 1).toNatClampNeg), .int (xs (i + 2).toNatClampNeg), .int (xs (i + 3).toNatClampNeg), .int (xs (i + 4).toNatClampNeg), .int (xs (i + 5).toNatClampNeg)]) (rest := []) C (c_X8_append fu l dC dI Z.kI Z.kB Z.kZ Z.ma v (nI T) er th (nW g) (nW a) (nW u) (nW sl) (nW kp) (nI mm) (nW P0) (nW L0) sn pv (nW r0) gn vd (nI nd) x1 x2 x3 x4 x5 x6 x7 txt txd (xs (i + 1).toNatClampNeg) (xs (i + 2).toNatClampNeg) (xs (i + 3).toNatClampNeg) (xs (i + 4).toNatClampNeg) (xs (i + 5).toNatClampNeg) H.size _ e2) gL_law_X8_append qX8_append rfl ⟨(Nat.le_of_ble_eq_true rfl), (Nat.le_of_ble_eq_true rfl)⟩ ⟨rfl, rfl⟩ hP hD hS hl.1 rfl rfl (Nat.le_of_ble_eq_true rfl) dL_law_364 ⟨by omega, by omega⟩ (fun H locs hP hD hS => ?_)
    refine lv_istore (lv' := [(6, .int (nI 0)), (5, .int 1), (0, .ref b), (1, .ref (Z.ca 0)), (2, .ref (Z.ma 0)), (3, .ref Z.q), (4, .int i)]) C.hx C.hb dL_law_367 hl (by decide) rfl (fun ls hl => ?_)
    refine lv_aload_n C.hx C.hb dL_law_369 rfl (lv_at hl 4 rfl) ?_
    refine lqMo (z := nI 1) (c0 := ⟨nI T, er, nI nd, tp, fd, ee, oo, tt, rr, sw, hh, tx⟩) (m0 := ⟨v, nI T, er, nI 1, nW g, nW a, nW u, nW sl, nW kp, nI mm, nW P0, nW L0, sn, pv, nW r0, gn, vd, nI nd, x1, x2, x3, x4, x5, x6, x7, txt, txd⟩) (o := o) (As := []) (rest := []) C (c_X8_thrown l dC dI Z.kI Z.kB Z.kZ Z.ma v (nI T) er (nI 1) (nW g) (nW a) (nW u) (nW sl) (nW kp) (nI mm) (nW P0) (nW L0) sn pv (nW r0) gn vd (nI nd) x1 x2 x3 x4 x5 x6 x7 txt txd (nI 1) rfl) gL_law_X8_thrown qX8_thrown rfl ⟨(Nat.le_of_ble_eq_true rfl), (Nat.le_of_ble_eq_true rfl)⟩ ⟨rfl, rfl⟩ hP hD hS hl.1 rfl rfl (Nat.le_of_ble_eq_true rfl) dL_law_370 ⟨by omega, by omega⟩ (fun H locs hP hD hS => ?_)
    refine lv_iload C.hx C.hb dL_law_373 (lv_at hl 1 rfl) ?_
    refine lv_icmp_eq (tgt := 380) C.hx C.hb dL_law_375 (by decide) (fun _ => ?_) (fun h9 => absurd (by first | rfl | decide) h9)
    refine lv_iload C.hx C.hb dL_law_380 (lv_at hl 1 rfl) ?_
    refine lv_if_ne (tgt := 397) C.hx C.hb dL_law_382 (by decide) (fun _ => ?_) (fun h9 => absurd h9 (by decide))
    refine lv_goto (tgt := 2318) C.hx C.hb dL_law_397 (by decide) ?_
    exact KK ⟨nI T, er, nI nd, tp, fd, ee, oo, tt, rr, sw, hh, tx⟩ ⟨v, nI T, er, nI 1, nW g, nW a, nW u, nW sl, nW kp, nI mm, nW P0, nW L0, sn, pv, nW r0, gn, vd, nI nd, x1, x2, x3, x4, x5, x6, x7, txt, txd⟩ o H locs ls ⟨T, er, nd, tp, fd, ee, oo, tt, rr, sw, hh, tx, v, nI 1, g, a, u, sl, kp, mm, P0, L0, sn, pv, r0, gn, vd, x1, x2, x3, x4, x5, x6, x7, txt, txd, bb, rfl, rfl, hTP, hDD, hST, hOF⟩ hP hD hS (lv_sub hl [2, 3, 4, 5, 6] rfl)
set_option maxHeartbeats 4000000 in
set_option maxRecDepth 100000 in
theorem lc_1 (C : LC p l s m args c A0 K dC dI Z b L xs) (hf : 20000 ≤ fu) (hR : REL c0 m0) (hP : va_P (dC, dI) vwCl (LW Z c0 m0 o) H) (hD : va_D A0 (LW Z c0 m0 o)) (hS : va_S A0 s.heap H locs) (hl : lv_has ls 9 [(0, .ref b), (1, .ref (Z.ca 0)), (2, .ref (Z.ma 0)), (3, .ref Z.q), (4, .int i)]) (hi1 : vp_in (i + 1) L) (hcl : cells + 8 ≤ room_1.cells ∧ slots + 48 ≤ room_1.slots) (KK : LKK p l e s m args below meth c (cells + 8) (slots + 48) Q A0 dC dI Z b i) : W p l e room_1 s m args below meth c H locs cells slots Q (F0 m 400 ls []) := by
  obtain ⟨hc1, hc2⟩ := hcl
  obtain ⟨T, er, nd, tp, fd, ee, oo, tt, rr, sw, hh, tx, v, th, g, a, u, sl, kp, mm, P0, L0, sn, pv, r0, gn, vd, x1, x2, x3, x4, x5, x6, x7, txt, txd, bb, rfl, rfl, hTP, hDD, hST, hOF⟩ := hR
  have hRE := hST.1
  have hG := hST.2.1
  rcases t_truncate th hTP (xs (i + 1).toNatClampNeg) with ⟨w, T1, e1, e2, hTP⟩ | ⟨e1, e2⟩
  · refine lv_aload_n C.hx C.hb dL_law_400 rfl (lv_at hl 1 rfl) ?_
    refine lv_aload_n C.hx C.hb dL_law_401 rfl (lv_at hl 0 rfl) ?_
    refine lv_iload C.hx C.hb dL_law_402 (lv_at hl 4 rfl) ?_
    refine lv_iconst (v := 1) C.hx C.hb dL_law_404 (by decide) ?_
    refine lv_iadd C.hx C.hb dL_law_405 ?_
    refine lq_x C hS hi1 dL_law_406 ?_
    refine lv_aload_n C.hx C.hb dL_law_407 rfl (lv_at hl 3 rfl) ?_
    refine lqL (r := 0) (c0 := ⟨nI T, er, nI nd, tp, fd, ee, oo, tt, rr, sw, hh, tx⟩) (c1 := ⟨nI T1, er, nI nd, tp, fd, ee, oo, tt, rr, sw, hh, tx⟩) (m0 := ⟨v, nI T, er, th, nW g, nW a, nW u, nW sl, nW kp, nI mm, nW P0, nW L0, sn, pv, nW r0, gn, vd, nI nd, x1, x2, x3, x4, x5, x6, x7, txt, txd⟩) (o := o) (o1 := (vp_updL o 0 w.toInt64)) (As := [.ref (Z.ca 0), .int (xs (i + 1).toNatClampNeg), .ref Z.q]) (rest := []) C (c_L_truncate l C.hl0 dC dI K Z.kI Z.kE Z.kL Z.ca Z.a Z.b Z.oa Z.ob Z.ra Z.sa Z.ha Z.ux Z.uy tx (nI T) er (nI nd) tp fd ee oo tt rr sw hh (xs (i + 1).toNatClampNeg) Z.q o H.size _ e1 0 (vp_updL o 0 w.toInt64) (Or.inl ⟨w, rfl, rfl, rfl⟩)) gL_law_L_truncate qL_truncate rfl ⟨(Nat.le_of_ble_eq_true rfl), (Nat.le_of_ble_eq_true rfl)⟩ ⟨rfl, rfl⟩ hP hD hS hl.1 rfl rfl (Nat.le_of_ble_eq_true rfl) dL_law_408 ⟨by omega, by omega⟩ (fun H locs hP hD hS => ?_)
    refine W.widen (k := cells + 8) (n := slots + 48) (by omega) (by omega) ?_
    refine lv_istore (lv' := [(5, .int 0), (0, .ref b), (1, .ref (Z.ca 0)), (2, .ref (Z.ma 0)), (3, .ref Z.q), (4, .int i)]) C.hx C.hb dL_law_411 hl (by decide) rfl (fun ls hl => ?_)
    refine lv_aload_n C.hx C.hb dL_law_413 rfl (lv_at hl 3 rfl) ?_
    refine lv_aload_n C.hx C.hb dL_law_414 rfl (lv_at hl 1 rfl) ?_
    refine lv_iload C.hx C.hb dL_law_415 (lv_at hl 5 rfl) ?_
    refine lv_iconst (v := 1) C.hx C.hb dL_law_417 (by decide) ?_
    refine lv_iadd C.hx C.hb dL_law_418 ?_
    refine lq_x C hS hi1 dL_law_419 ?_
    refine lqMi (z := w) (c0 := ⟨nI T1, er, nI nd, tp, fd, ee, oo, tt, rr, sw, hh, tx⟩) (m0 := ⟨v, nI T, er, th, nW g, nW a, nW u, nW sl, nW kp, nI mm, nW P0, nW L0, sn, pv, nW r0, gn, vd, nI nd, x1, x2, x3, x4, x5, x6, x7, txt, txd⟩) (m1 := ⟨v, nI T1, er, nI 0, nW g, nW a, nW u, nW sl, nW kp, nI mm, nW P0, nW L0, sn, pv, nW r0, gn, vd, nI nd, x1, x2, x3, x4, x5, x6, x7, txt, txd⟩) (o := (vp_updL o 0 w.toInt64)) (As := [.int (xs (i + 1).toNatClampNeg)]) (rest := []) C (c_X8_truncate l dC dI Z.kI Z.kB Z.kZ Z.ma v (nI T) er th (nW g) (nW a) (nW u) (nW sl) (nW kp) (nI mm) (nW P0) (nW L0) sn pv (nW r0) gn vd (nI nd) x1 x2 x3 x4 x5 x6 x7 txt txd (xs (i + 1).toNatClampNeg) H.size _ e2) gL_law_X8_truncate qX8_truncate rfl ⟨(Nat.le_of_ble_eq_true rfl), (Nat.le_of_ble_eq_true rfl)⟩ ⟨rfl, rfl⟩ hP hD hS hl.1 rfl rfl (Nat.le_of_ble_eq_true rfl) dL_law_420 ⟨by omega, by omega⟩ (fun H locs hP hD hS => ?_)
    refine lv_istore (lv' := [(6, .int w), (5, .int 0), (0, .ref b), (1, .ref (Z.ca 0)), (2, .ref (Z.ma 0)), (3, .ref Z.q), (4, .int i)]) C.hx C.hb dL_law_423 hl (by decide) rfl (fun ls hl => ?_)
    refine lv_aload_n C.hx C.hb dL_law_425 rfl (lv_at hl 4 rfl) ?_
    refine lqMo (z := nI 0) (c0 := ⟨nI T1, er, nI nd, tp, fd, ee, oo, tt, rr, sw, hh, tx⟩) (m0 := ⟨v, nI T1, er, nI 0, nW g, nW a, nW u, nW sl, nW kp, nI mm, nW P0, nW L0, sn, pv, nW r0, gn, vd, nI nd, x1, x2, x3, x4, x5, x6, x7, txt, txd⟩) (o := (vp_updL o 0 w.toInt64)) (As := []) (rest := []) C (c_X8_thrown l dC dI Z.kI Z.kB Z.kZ Z.ma v (nI T1) er (nI 0) (nW g) (nW a) (nW u) (nW sl) (nW kp) (nI mm) (nW P0) (nW L0) sn pv (nW r0) gn vd (nI nd) x1 x2 x3 x4 x5 x6 x7 txt txd (nI 0) rfl) gL_law_X8_thrown qX8_thrown rfl ⟨(Nat.le_of_ble_eq_true rfl), (Nat.le_of_ble_eq_true rfl)⟩ ⟨rfl, rfl⟩ hP hD hS hl.1 rfl rfl (Nat.le_of_ble_eq_true rfl) dL_law_426 ⟨by omega, by omega⟩ (fun H locs hP hD hS => ?_)
    refine lv_iload C.hx C.hb dL_law_429 (lv_at hl 1 rfl) ?_
    refine lv_icmp_eq (tgt := 436) C.hx C.hb dL_law_431 (by decide) (fun _ => ?_) (fun h9 => absurd (by first | rfl | decide) h9)
    refine lv_iload C.hx C.hb dL_law_436 (lv_at hl 1 rfl) ?_
    refine lv_if_ne (tgt := 453) C.hx C.hb dL_law_438 (by decide) (fun h9 => absurd rfl h9) (fun _ => ?_)
    refine lv_aload_n C.hx C.hb dL_law_441 rfl (lv_at hl 5 rfl) ?_
    refine lv_iconst (v := 0) C.hx C.hb dL_law_442 (by decide) ?_
    refine lq_o C hP dL_law_443 ?_
    refine lv_iload C.hx C.hb dL_law_444 (lv_at hl 0 rfl) ?_
    refine lv_i2l (v := w.toInt64) C.hx C.hb dL_law_446 rfl ?_
    refine W.lcmp C.hx C.hb dL_law_447 ?_
    refine lv_if_eq (tgt := 453) C.hx C.hb dL_law_448 (by decide) (fun _ => ?_) (fun h9 => absurd (cmp_self _) h9)
    refine lv_goto (tgt := 2318) C.hx C.hb dL_law_453 (by decide) ?_
    exact KK ⟨nI T1, er, nI nd, tp, fd, ee, oo, tt, rr, sw, hh, tx⟩ ⟨v, nI T1, er, nI 0, nW g, nW a, nW u, nW sl, nW kp, nI mm, nW P0, nW L0, sn, pv, nW r0, gn, vd, nI nd, x1, x2, x3, x4, x5, x6, x7, txt, txd⟩ (vp_updL o 0 w.toInt64) H locs ls ⟨T1, er, nd, tp, fd, ee, oo, tt, rr, sw, hh, tx, v, nI 0, g, a, u, sl, kp, mm, P0, L0, sn, pv, r0, gn, vd, x1, x2, x3, x4, x5, x6, x7, txt, txd, bb, rfl, rfl, hTP, hDD, hST, hOF⟩ hP hD hS (lv_sub hl [2, 3, 4, 5, 6] rfl)
  · refine lv_aload_n C.hx C.hb dL_law_400 rfl (lv_at hl 1 rfl) ?_
    refine lv_aload_n C.hx C.hb dL_law_401 rfl (lv_at hl 0 rfl) ?_
    refine lv_iload C.hx C.hb dL_law_402 (lv_at hl 4 rfl) ?_
    refine lv_iconst (v := 1) C.hx C.hb dL_law_404 (by decide) ?_
    refine lv_iadd C.hx C.hb dL_law_405 ?_
    refine lq_x C hS hi1 dL_law_406 ?_
    refine lv_aload_n C.hx C.hb dL_law_407 rfl (lv_at hl 3 rfl) ?_
    refine lqL (r := 1) (c0 := ⟨nI T, er, nI nd, tp, fd, ee, oo, tt, rr, sw, hh, tx⟩) (c1 := ⟨nI T, er, nI nd, tp, fd, ee, oo, tt, rr, sw, hh, tx⟩) (m0 := ⟨v, nI T, er, th, nW g, nW a, nW u, nW sl, nW kp, nI mm, nW P0, nW L0, sn, pv, nW r0, gn, vd, nI nd, x1, x2, x3, x4, x5, x6, x7, txt, txd⟩) (o := o) (o1 := o) (As := [.ref (Z.ca 0), .int (xs (i + 1).toNatClampNeg), .ref Z.q]) (rest := []) C (c_L_truncate l C.hl0 dC dI K Z.kI Z.kE Z.kL Z.ca Z.a Z.b Z.oa Z.ob Z.ra Z.sa Z.ha Z.ux Z.uy tx (nI T) er (nI nd) tp fd ee oo tt rr sw hh (xs (i + 1).toNatClampNeg) Z.q o H.size _ e1 1 o (Or.inr ⟨rfl, rfl, rfl⟩)) gL_law_L_truncate qL_truncate rfl ⟨(Nat.le_of_ble_eq_true rfl), (Nat.le_of_ble_eq_true rfl)⟩ ⟨rfl, rfl⟩ hP hD hS hl.1 rfl rfl (Nat.le_of_ble_eq_true rfl) dL_law_408 ⟨by omega, by omega⟩ (fun H locs hP hD hS => ?_)
    refine W.widen (k := cells + 8) (n := slots + 48) (by omega) (by omega) ?_
    refine lv_istore (lv' := [(5, .int 1), (0, .ref b), (1, .ref (Z.ca 0)), (2, .ref (Z.ma 0)), (3, .ref Z.q), (4, .int i)]) C.hx C.hb dL_law_411 hl (by decide) rfl (fun ls hl => ?_)
    refine lv_aload_n C.hx C.hb dL_law_413 rfl (lv_at hl 3 rfl) ?_
    refine lv_aload_n C.hx C.hb dL_law_414 rfl (lv_at hl 1 rfl) ?_
    refine lv_iload C.hx C.hb dL_law_415 (lv_at hl 5 rfl) ?_
    refine lv_iconst (v := 1) C.hx C.hb dL_law_417 (by decide) ?_
    refine lv_iadd C.hx C.hb dL_law_418 ?_
    refine lq_x C hS hi1 dL_law_419 ?_
    refine lqMi (z := nI 0) (c0 := ⟨nI T, er, nI nd, tp, fd, ee, oo, tt, rr, sw, hh, tx⟩) (m0 := ⟨v, nI T, er, th, nW g, nW a, nW u, nW sl, nW kp, nI mm, nW P0, nW L0, sn, pv, nW r0, gn, vd, nI nd, x1, x2, x3, x4, x5, x6, x7, txt, txd⟩) (m1 := ⟨v, nI T, er, nI 1, nW g, nW a, nW u, nW sl, nW kp, nI mm, nW P0, nW L0, sn, pv, nW r0, gn, vd, nI nd, x1, x2, x3, x4, x5, x6, x7, txt, txd⟩) (o := o) (As := [.int (xs (i + 1).toNatClampNeg)]) (rest := []) C (c_X8_truncate l dC dI Z.kI Z.kB Z.kZ Z.ma v (nI T) er th (nW g) (nW a) (nW u) (nW sl) (nW kp) (nI mm) (nW P0) (nW L0) sn pv (nW r0) gn vd (nI nd) x1 x2 x3 x4 x5 x6 x7 txt txd (xs (i + 1).toNatClampNeg) H.size _ e2) gL_law_X8_truncate qX8_truncate rfl ⟨(Nat.le_of_ble_eq_true rfl), (Nat.le_of_ble_eq_true rfl)⟩ ⟨rfl, rfl⟩ hP hD hS hl.1 rfl rfl (Nat.le_of_ble_eq_true rfl) dL_law_420 ⟨by omega, by omega⟩ (fun H locs hP hD hS => ?_)
    refine lv_istore (lv' := [(6, .int (nI 0)), (5, .int 1), (0, .ref b), (1, .ref (Z.ca 0)), (2, .ref (Z.ma 0)), (3, .ref Z.q), (4, .int i)]) C.hx C.hb dL_law_423 hl (by decide) rfl (fun ls hl => ?_)
    refine lv_aload_n C.hx C.hb dL_law_425 rfl (lv_at hl 4 rfl) ?_
    refine lqMo (z := nI 1) (c0 := ⟨nI T, er, nI nd, tp, fd, ee, oo, tt, rr, sw, hh, tx⟩) (m0 := ⟨v, nI T, er, nI 1, nW g, nW a, nW u, nW sl, nW kp, nI mm, nW P0, nW L0, sn, pv, nW r0, gn, vd, nI nd, x1, x2, x3, x4, x5, x6, x7, txt, txd⟩) (o := o) (As := []) (rest := []) C (c_X8_thrown l dC dI Z.kI Z.kB Z.kZ Z.ma v (nI T) er (nI 1) (nW g) (nW a) (nW u) (nW sl) (nW kp) (nI mm) (nW P0) (nW L0) sn pv (nW r0) gn vd (nI nd) x1 x2 x3 x4 x5 x6 x7 txt txd (nI 1) rfl) gL_law_X8_thrown qX8_thrown rfl ⟨(Nat.le_of_ble_eq_true rfl), (Nat.le_of_ble_eq_true rfl)⟩ ⟨rfl, rfl⟩ hP hD hS hl.1 rfl rfl (Nat.le_of_ble_eq_true rfl) dL_law_426 ⟨by omega, by omega⟩ (fun H locs hP hD hS => ?_)
    refine lv_iload C.hx C.hb dL_law_429 (lv_at hl 1 rfl) ?_
    refine lv_icmp_eq (tgt := 436) C.hx C.hb dL_law_431 (by decide) (fun _ => ?_) (fun h9 => absurd (by first | rfl | decide) h9)
    refine lv_iload C.hx C.hb dL_law_436 (lv_at hl 1 rfl) ?_
    refine lv_if_ne (tgt := 453) C.hx C.hb dL_law_438 (by decide) (fun _ => ?_) (fun h9 => absurd h9 (by decide))
    refine lv_goto (tgt := 2318) C.hx C.hb dL_law_453 (by decide) ?_
    exact KK ⟨nI T, er, nI nd, tp, fd, ee, oo, tt, rr, sw, hh, tx⟩ ⟨v, nI T, er, nI 1, nW g, nW a, nW u, nW sl, nW kp, nI mm, nW P0, nW L0, sn, pv, nW r0, gn, vd, nI nd, x1, x2, x3, x4, x5, x6, x7, txt, txd⟩ o H locs ls ⟨T, er, nd, tp, fd, ee, oo, tt, rr, sw, hh, tx, v, nI 1, g, a, u, sl, kp, mm, P0, L0, sn, pv, r0, gn, vd, x1, x2, x3, x4, x5, x6, x7, txt, txd, bb, rfl, rfl, hTP, hDD, hST, hOF⟩ hP hD hS (lv_sub hl [2, 3, 4, 5, 6] rfl)
set_option maxHeartbeats 4000000 in
set_option maxRecDepth 100000 in
theorem lc_2 (C : LC p l s m args c A0 K dC dI Z b L xs) (hf : 20000 ≤ fu) (hR : REL c0 m0) (hP : va_P (dC, dI) vwCl (LW Z c0 m0 o) H) (hD : va_D A0 (LW Z c0 m0 o)) (hS : va_S A0 s.heap H locs) (hl : lv_has ls 9 [(0, .ref b), (1, .ref (Z.ca 0)), (2, .ref (Z.ma 0)), (3, .ref Z.q), (4, .int i)])  (hcl : cells + 8 ≤ room_1.cells ∧ slots + 48 ≤ room_1.slots) (KK : LKK p l e s m args below meth c (cells + 8) (slots + 48) Q A0 dC dI Z b i) : W p l e room_1 s m args below meth c H locs cells slots Q (F0 m 456 ls []) := by
  obtain ⟨hc1, hc2⟩ := hcl
  obtain ⟨T, er, nd, tp, fd, ee, oo, tt, rr, sw, hh, tx, v, th, g, a, u, sl, kp, mm, P0, L0, sn, pv, r0, gn, vd, x1, x2, x3, x4, x5, x6, x7, txt, txd, bb, rfl, rfl, hTP, hDD, hST, hOF⟩ := hR
  have hRE := hST.1
  have hG := hST.2.1
  obtain ⟨g1, a1, tt1, rr1, z2, z3, z4, z5, z6, z7, z8, (⟨w, ee1, hh1, kp1, e1, e2, hST⟩ | ⟨p9, e1, e2, hST⟩)⟩ := t_load fu hf th hST a hTP er er (nI nd) (nI nd) tt rr x1 x2 x3 x4 x5 x6 x7
  · refine lv_aload_n C.hx C.hb dL_law_456 rfl (lv_at hl 1 rfl) ?_
    refine lv_aload_n C.hx C.hb dL_law_457 rfl (lv_at hl 3 rfl) ?_
    refine lqL (r := 0) (c0 := ⟨nI T, er, nI nd, tp, fd, ee, oo, tt, rr, sw, hh, tx⟩) (c1 := ⟨nI 0, nI 4294967295, nI 0, tp, fd, ee1, oo, tt1, rr1, sw, hh1, (Z.ca 1)⟩) (m0 := ⟨v, nI T, er, th, nW g, nW a, nW u, nW sl, nW kp, nI mm, nW P0, nW L0, sn, pv, nW r0, gn, vd, nI nd, x1, x2, x3, x4, x5, x6, x7, txt, txd⟩) (o := o) (o1 := (vp_updL o 0 w.toInt64)) (As := [.ref (Z.ca 0), .ref Z.q]) (rest := []) C (c_L_load fu l C.hl0 dC dI K Z.kI Z.kE Z.kL Z.ca Z.a Z.b Z.oa Z.ob Z.ra Z.sa Z.ha Z.ux Z.uy tx (nI T) er (nI nd) tp fd ee oo tt rr sw hh Z.q o H.size _ e1 0 (vp_updL o 0 w.toInt64) (Or.inl ⟨w, rfl, rfl, rfl⟩)) gL_law_L_load qL_load rfl ⟨(Nat.le_of_ble_eq_true rfl), (Nat.le_of_ble_eq_true rfl)⟩ ⟨rfl, rfl⟩ hP hD hS hl.1 rfl rfl (Nat.le_of_ble_eq_true rfl) dL_law_458 ⟨by omega, by omega⟩ (fun H locs hP hD hS => ?_)
    refine W.widen (k := cells + 8) (n := slots + 48) (by omega) (by omega) ?_
    refine lv_istore (lv' := [(5, .int 0), (0, .ref b), (1, .ref (Z.ca 0)), (2, .ref (Z.ma 0)), (3, .ref Z.q), (4, .int i)]) C.hx C.hb dL_law_461 hl (by decide) rfl (fun ls hl => ?_)
    refine lv_aload_n C.hx C.hb dL_law_463 rfl (lv_at hl 3 rfl) ?_
    refine lqMi (z := w) (c0 := ⟨nI 0, nI 4294967295, nI 0, tp, fd, ee1, oo, tt1, rr1, sw, hh1, (Z.ca 1)⟩) (m0 := ⟨v, nI T, er, th, nW g, nW a, nW u, nW sl, nW kp, nI mm, nW P0, nW L0, sn, pv, nW r0, gn, vd, nI nd, x1, x2, x3, x4, x5, x6, x7, txt, txd⟩) (m1 := ⟨v, nI 0, nI 4294967295, nI 0, nW g1, nW a1, nW u, nW sl, nW kp1, nI 0, nW P0, nW L0, sn, pv, nW r0, gn, vd, nI 0, z2, z3, z4, z5, z6, z7, z8, txt, txd⟩) (o := (vp_updL o 0 w.toInt64)) (As := []) (rest := []) C (c_X8_load fu l dC dI Z.kI Z.kB Z.kZ Z.ma v (nI T) er th (nW g) (nW a) (nW u) (nW sl) (nW kp) (nI mm) (nW P0) (nW L0) sn pv (nW r0) gn vd (nI nd) x1 x2 x3 x4 x5 x6 x7 txt txd H.size _ e2) gL_law_X8_load qX8_load rfl ⟨(Nat.le_of_ble_eq_true rfl), (Nat.le_of_ble_eq_true rfl)⟩ ⟨rfl, rfl⟩ hP hD hS hl.1 rfl rfl (Nat.le_of_ble_eq_true rfl) dL_law_464 ⟨by omega, by omega⟩ (fun H locs hP hD hS => ?_)
    refine lv_istore (lv' := [(6, .int w), (5, .int 0), (0, .ref b), (1, .ref (Z.ca 0)), (2, .ref (Z.ma 0)), (3, .ref Z.q), (4, .int i)]) C.hx C.hb dL_law_467 hl (by decide) rfl (fun ls hl => ?_)
    refine lv_aload_n C.hx C.hb dL_law_469 rfl (lv_at hl 4 rfl) ?_
    refine lqMo (z := nI 0) (c0 := ⟨nI 0, nI 4294967295, nI 0, tp, fd, ee1, oo, tt1, rr1, sw, hh1, (Z.ca 1)⟩) (m0 := ⟨v, nI 0, nI 4294967295, nI 0, nW g1, nW a1, nW u, nW sl, nW kp1, nI 0, nW P0, nW L0, sn, pv, nW r0, gn, vd, nI 0, z2, z3, z4, z5, z6, z7, z8, txt, txd⟩) (o := (vp_updL o 0 w.toInt64)) (As := []) (rest := []) C (c_X8_thrown l dC dI Z.kI Z.kB Z.kZ Z.ma v (nI 0) (nI 4294967295) (nI 0) (nW g1) (nW a1) (nW u) (nW sl) (nW kp1) (nI 0) (nW P0) (nW L0) sn pv (nW r0) gn vd (nI 0) z2 z3 z4 z5 z6 z7 z8 txt txd (nI 0) rfl) gL_law_X8_thrown qX8_thrown rfl ⟨(Nat.le_of_ble_eq_true rfl), (Nat.le_of_ble_eq_true rfl)⟩ ⟨rfl, rfl⟩ hP hD hS hl.1 rfl rfl (Nat.le_of_ble_eq_true rfl) dL_law_470 ⟨by omega, by omega⟩ (fun H locs hP hD hS => ?_)
    refine lv_iload C.hx C.hb dL_law_473 (lv_at hl 1 rfl) ?_
    refine lv_icmp_eq (tgt := 480) C.hx C.hb dL_law_475 (by decide) (fun _ => ?_) (fun h9 => absurd (by first | rfl | decide) h9)
    refine lv_iload C.hx C.hb dL_law_480 (lv_at hl 1 rfl) ?_
    refine lv_if_ne (tgt := 497) C.hx C.hb dL_law_482 (by decide) (fun h9 => absurd rfl h9) (fun _ => ?_)
    refine lv_aload_n C.hx C.hb dL_law_485 rfl (lv_at hl 5 rfl) ?_
    refine lv_iconst (v := 0) C.hx C.hb dL_law_486 (by decide) ?_
    refine lq_o C hP dL_law_487 ?_
    refine lv_iload C.hx C.hb dL_law_488 (lv_at hl 0 rfl) ?_
    refine lv_i2l (v := w.toInt64) C.hx C.hb dL_law_490 rfl ?_
    refine W.lcmp C.hx C.hb dL_law_491 ?_
    refine lv_if_eq (tgt := 497) C.hx C.hb dL_law_492 (by decide) (fun _ => ?_) (fun h9 => absurd (cmp_self _) h9)
    refine lv_goto (tgt := 2318) C.hx C.hb dL_law_497 (by decide) ?_
    exact KK ⟨nI 0, nI 4294967295, nI 0, tp, fd, ee1, oo, tt1, rr1, sw, hh1, (Z.ca 1)⟩ ⟨v, nI 0, nI 4294967295, nI 0, nW g1, nW a1, nW u, nW sl, nW kp1, nI 0, nW P0, nW L0, sn, pv, nW r0, gn, vd, nI 0, z2, z3, z4, z5, z6, z7, z8, txt, txd⟩ (vp_updL o 0 w.toInt64) H locs ls ⟨0, nI 4294967295, 0, tp, fd, ee1, oo, tt1, rr1, sw, hh1, (Z.ca 1), v, nI 0, g1, a1, u, sl, kp1, 0, P0, L0, sn, pv, r0, gn, vd, z2, z3, z4, z5, z6, z7, z8, txt, txd, bb, rfl, rfl, (TP_0 _ _ bb), (DD_0 _ _), hST, hOF⟩ hP hD hS (lv_sub hl [2, 3, 4, 5, 6] rfl)
  · refine lv_aload_n C.hx C.hb dL_law_456 rfl (lv_at hl 1 rfl) ?_
    refine lv_aload_n C.hx C.hb dL_law_457 rfl (lv_at hl 3 rfl) ?_
    refine lqL (r := 1) (c0 := ⟨nI T, er, nI nd, tp, fd, ee, oo, tt, rr, sw, hh, tx⟩) (c1 := ⟨nI 0, nI p9, nI nd, tp, fd, ee, oo, tt1, rr1, sw, hh, (Z.ca 1)⟩) (m0 := ⟨v, nI T, er, th, nW g, nW a, nW u, nW sl, nW kp, nI mm, nW P0, nW L0, sn, pv, nW r0, gn, vd, nI nd, x1, x2, x3, x4, x5, x6, x7, txt, txd⟩) (o := o) (o1 := o) (As := [.ref (Z.ca 0), .ref Z.q]) (rest := []) C (c_L_load fu l C.hl0 dC dI K Z.kI Z.kE Z.kL Z.ca Z.a Z.b Z.oa Z.ob Z.ra Z.sa Z.ha Z.ux Z.uy tx (nI T) er (nI nd) tp fd ee oo tt rr sw hh Z.q o H.size _ e1 1 o (Or.inr ⟨rfl, rfl, rfl⟩)) gL_law_L_load qL_load rfl ⟨(Nat.le_of_ble_eq_true rfl), (Nat.le_of_ble_eq_true rfl)⟩ ⟨rfl, rfl⟩ hP hD hS hl.1 rfl rfl (Nat.le_of_ble_eq_true rfl) dL_law_458 ⟨by omega, by omega⟩ (fun H locs hP hD hS => ?_)
    refine W.widen (k := cells + 8) (n := slots + 48) (by omega) (by omega) ?_
    refine lv_istore (lv' := [(5, .int 1), (0, .ref b), (1, .ref (Z.ca 0)), (2, .ref (Z.ma 0)), (3, .ref Z.q), (4, .int i)]) C.hx C.hb dL_law_461 hl (by decide) rfl (fun ls hl => ?_)
    refine lv_aload_n C.hx C.hb dL_law_463 rfl (lv_at hl 3 rfl) ?_
    refine lqMi (z := nI 0) (c0 := ⟨nI 0, nI p9, nI nd, tp, fd, ee, oo, tt1, rr1, sw, hh, (Z.ca 1)⟩) (m0 := ⟨v, nI T, er, th, nW g, nW a, nW u, nW sl, nW kp, nI mm, nW P0, nW L0, sn, pv, nW r0, gn, vd, nI nd, x1, x2, x3, x4, x5, x6, x7, txt, txd⟩) (m1 := ⟨v, nI 0, nI p9, nI 1, nW g1, nW a1, nW u, nW sl, nW kp, nI mm, nW P0, nW L0, sn, pv, nW r0, gn, vd, nI nd, z2, z3, z4, z5, z6, z7, z8, txt, txd⟩) (o := o) (As := []) (rest := []) C (c_X8_load fu l dC dI Z.kI Z.kB Z.kZ Z.ma v (nI T) er th (nW g) (nW a) (nW u) (nW sl) (nW kp) (nI mm) (nW P0) (nW L0) sn pv (nW r0) gn vd (nI nd) x1 x2 x3 x4 x5 x6 x7 txt txd H.size _ e2) gL_law_X8_load qX8_load rfl ⟨(Nat.le_of_ble_eq_true rfl), (Nat.le_of_ble_eq_true rfl)⟩ ⟨rfl, rfl⟩ hP hD hS hl.1 rfl rfl (Nat.le_of_ble_eq_true rfl) dL_law_464 ⟨by omega, by omega⟩ (fun H locs hP hD hS => ?_)
    refine lv_istore (lv' := [(6, .int (nI 0)), (5, .int 1), (0, .ref b), (1, .ref (Z.ca 0)), (2, .ref (Z.ma 0)), (3, .ref Z.q), (4, .int i)]) C.hx C.hb dL_law_467 hl (by decide) rfl (fun ls hl => ?_)
    refine lv_aload_n C.hx C.hb dL_law_469 rfl (lv_at hl 4 rfl) ?_
    refine lqMo (z := nI 1) (c0 := ⟨nI 0, nI p9, nI nd, tp, fd, ee, oo, tt1, rr1, sw, hh, (Z.ca 1)⟩) (m0 := ⟨v, nI 0, nI p9, nI 1, nW g1, nW a1, nW u, nW sl, nW kp, nI mm, nW P0, nW L0, sn, pv, nW r0, gn, vd, nI nd, z2, z3, z4, z5, z6, z7, z8, txt, txd⟩) (o := o) (As := []) (rest := []) C (c_X8_thrown l dC dI Z.kI Z.kB Z.kZ Z.ma v (nI 0) (nI p9) (nI 1) (nW g1) (nW a1) (nW u) (nW sl) (nW kp) (nI mm) (nW P0) (nW L0) sn pv (nW r0) gn vd (nI nd) z2 z3 z4 z5 z6 z7 z8 txt txd (nI 1) rfl) gL_law_X8_thrown qX8_thrown rfl ⟨(Nat.le_of_ble_eq_true rfl), (Nat.le_of_ble_eq_true rfl)⟩ ⟨rfl, rfl⟩ hP hD hS hl.1 rfl rfl (Nat.le_of_ble_eq_true rfl) dL_law_470 ⟨by omega, by omega⟩ (fun H locs hP hD hS => ?_)
    refine lv_iload C.hx C.hb dL_law_473 (lv_at hl 1 rfl) ?_
    refine lv_icmp_eq (tgt := 480) C.hx C.hb dL_law_475 (by decide) (fun _ => ?_) (fun h9 => absurd (by first | rfl | decide) h9)
    refine lv_iload C.hx C.hb dL_law_480 (lv_at hl 1 rfl) ?_
    refine lv_if_ne (tgt := 497) C.hx C.hb dL_law_482 (by decide) (fun _ => ?_) (fun h9 => absurd h9 (by decide))
    refine lv_goto (tgt := 2318) C.hx C.hb dL_law_497 (by decide) ?_
    exact KK ⟨nI 0, nI p9, nI nd, tp, fd, ee, oo, tt1, rr1, sw, hh, (Z.ca 1)⟩ ⟨v, nI 0, nI p9, nI 1, nW g1, nW a1, nW u, nW sl, nW kp, nI mm, nW P0, nW L0, sn, pv, nW r0, gn, vd, nI nd, z2, z3, z4, z5, z6, z7, z8, txt, txd⟩ o H locs ls ⟨0, nI p9, nd, tp, fd, ee, oo, tt1, rr1, sw, hh, (Z.ca 1), v, nI 1, g1, a1, u, sl, kp, mm, P0, L0, sn, pv, r0, gn, vd, z2, z3, z4, z5, z6, z7, z8, txt, txd, bb, rfl, rfl, (TP_0 _ _ bb), hDD, hST, hOF⟩ hP hD hS (lv_sub hl [2, 3, 4, 5, 6] rfl)
set_option maxHeartbeats 4000000 in
set_option maxRecDepth 100000 in
theorem lc_3 (C : LC p l s m args c A0 K dC dI Z b L xs) (hf : 20000 ≤ fu) (hR : REL c0 m0) (hP : va_P (dC, dI) vwCl (LW Z c0 m0 o) H) (hD : va_D A0 (LW Z c0 m0 o)) (hS : va_S A0 s.heap H locs) (hl : lv_has ls 9 [(0, .ref b), (1, .ref (Z.ca 0)), (2, .ref (Z.ma 0)), (3, .ref Z.q), (4, .int i)])  (hcl : cells + 8 ≤ room_1.cells ∧ slots + 48 ≤ room_1.slots) (KK : LKK p l e s m args below meth c (cells + 8) (slots + 48) Q A0 dC dI Z b i) : W p l e room_1 s m args below meth c H locs cells slots Q (F0 m 500 ls []) := by
  obtain ⟨hc1, hc2⟩ := hcl
  obtain ⟨T, er, nd, tp, fd, ee, oo, tt, rr, sw, hh, tx, v, th, g, a, u, sl, kp, mm, P0, L0, sn, pv, r0, gn, vd, x1, x2, x3, x4, x5, x6, x7, txt, txd, bb, rfl, rfl, hTP, hDD, hST, hOF⟩ := hR
  have hRE := hST.1
  have hG := hST.2.1
  obtain ⟨oo1, tt1, P1, L1, r1, z1, z2, z3, z4, z5, z6, z7, z8, z9, z10, hOF, (⟨w, fd1, vd1, nd1, e1, e2, hDD⟩ | ⟨p9, e1, e2⟩)⟩ := t_decode fu hf th hRE hG hOF hTP hDD er er tt P0 L0 r0 sn pv gn x1 x2 x3 x4 x5 x6 x7
  · refine lv_aload_n C.hx C.hb dL_law_500 rfl (lv_at hl 1 rfl) ?_
    refine lv_aload_n C.hx C.hb dL_law_501 rfl (lv_at hl 3 rfl) ?_
    refine lqL (r := 0) (c0 := ⟨nI T, er, nI nd, tp, fd, ee, oo, tt, rr, sw, hh, tx⟩) (c1 := ⟨nI 0, nI 4294967295, nI nd1, tp, fd1, ee, oo1, tt1, rr, sw, hh, (Z.ca 1)⟩) (m0 := ⟨v, nI T, er, th, nW g, nW a, nW u, nW sl, nW kp, nI mm, nW P0, nW L0, sn, pv, nW r0, gn, vd, nI nd, x1, x2, x3, x4, x5, x6, x7, txt, txd⟩) (o := o) (o1 := (vp_updL o 0 w.toInt64)) (As := [.ref (Z.ca 0), .ref Z.q]) (rest := []) C (c_L_decode fu l C.hl0 dC dI K Z.kI Z.kE Z.kL Z.ca Z.a Z.b Z.oa Z.ob Z.ra Z.sa Z.ha Z.ux Z.uy tx (nI T) er (nI nd) tp fd ee oo tt rr sw hh Z.q o H.size _ e1 0 (vp_updL o 0 w.toInt64) (Or.inl ⟨w, rfl, rfl, rfl⟩)) gL_law_L_decode qL_decode rfl ⟨(Nat.le_of_ble_eq_true rfl), (Nat.le_of_ble_eq_true rfl)⟩ ⟨rfl, rfl⟩ hP hD hS hl.1 rfl rfl (Nat.le_of_ble_eq_true rfl) dL_law_502 ⟨by omega, by omega⟩ (fun H locs hP hD hS => ?_)
    refine W.widen (k := cells + 8) (n := slots + 48) (by omega) (by omega) ?_
    refine lv_istore (lv' := [(5, .int 0), (0, .ref b), (1, .ref (Z.ca 0)), (2, .ref (Z.ma 0)), (3, .ref Z.q), (4, .int i)]) C.hx C.hb dL_law_505 hl (by decide) rfl (fun ls hl => ?_)
    refine lv_aload_n C.hx C.hb dL_law_507 rfl (lv_at hl 3 rfl) ?_
    refine lqMi (z := w) (c0 := ⟨nI 0, nI 4294967295, nI nd1, tp, fd1, ee, oo1, tt1, rr, sw, hh, (Z.ca 1)⟩) (m0 := ⟨v, nI T, er, th, nW g, nW a, nW u, nW sl, nW kp, nI mm, nW P0, nW L0, sn, pv, nW r0, gn, vd, nI nd, x1, x2, x3, x4, x5, x6, x7, txt, txd⟩) (m1 := ⟨v, nI 0, nI 4294967295, nI 0, nW g, nW a, nW u, nW sl, nW kp, nI mm, nW P1, nW L1, z1, z2, nW r1, z3, vd1, nI nd1, z4, z5, z6, z7, z8, z9, z10, txt, txd⟩) (o := (vp_updL o 0 w.toInt64)) (As := []) (rest := []) C (c_X8_decode fu l dC dI Z.kI Z.kB Z.kZ Z.ma v (nI T) er th (nW g) (nW a) (nW u) (nW sl) (nW kp) (nI mm) (nW P0) (nW L0) sn pv (nW r0) gn vd (nI nd) x1 x2 x3 x4 x5 x6 x7 txt txd H.size _ e2) gL_law_X8_decode qX8_decode rfl ⟨(Nat.le_of_ble_eq_true rfl), (Nat.le_of_ble_eq_true rfl)⟩ ⟨rfl, rfl⟩ hP hD hS hl.1 rfl rfl (Nat.le_of_ble_eq_true rfl) dL_law_508 ⟨by omega, by omega⟩ (fun H locs hP hD hS => ?_)
    refine lv_istore (lv' := [(6, .int w), (5, .int 0), (0, .ref b), (1, .ref (Z.ca 0)), (2, .ref (Z.ma 0)), (3, .ref Z.q), (4, .int i)]) C.hx C.hb dL_law_511 hl (by decide) rfl (fun ls hl => ?_)
    refine lv_aload_n C.hx C.hb dL_law_513 rfl (lv_at hl 4 rfl) ?_
    refine lqMo (z := nI 0) (c0 := ⟨nI 0, nI 4294967295, nI nd1, tp, fd1, ee, oo1, tt1, rr, sw, hh, (Z.ca 1)⟩) (m0 := ⟨v, nI 0, nI 4294967295, nI 0, nW g, nW a, nW u, nW sl, nW kp, nI mm, nW P1, nW L1, z1, z2, nW r1, z3, vd1, nI nd1, z4, z5, z6, z7, z8, z9, z10, txt, txd⟩) (o := (vp_updL o 0 w.toInt64)) (As := []) (rest := []) C (c_X8_thrown l dC dI Z.kI Z.kB Z.kZ Z.ma v (nI 0) (nI 4294967295) (nI 0) (nW g) (nW a) (nW u) (nW sl) (nW kp) (nI mm) (nW P1) (nW L1) z1 z2 (nW r1) z3 vd1 (nI nd1) z4 z5 z6 z7 z8 z9 z10 txt txd (nI 0) rfl) gL_law_X8_thrown qX8_thrown rfl ⟨(Nat.le_of_ble_eq_true rfl), (Nat.le_of_ble_eq_true rfl)⟩ ⟨rfl, rfl⟩ hP hD hS hl.1 rfl rfl (Nat.le_of_ble_eq_true rfl) dL_law_514 ⟨by omega, by omega⟩ (fun H locs hP hD hS => ?_)
    refine lv_iload C.hx C.hb dL_law_517 (lv_at hl 1 rfl) ?_
    refine lv_icmp_eq (tgt := 524) C.hx C.hb dL_law_519 (by decide) (fun _ => ?_) (fun h9 => absurd (by first | rfl | decide) h9)
    refine lv_iload C.hx C.hb dL_law_524 (lv_at hl 1 rfl) ?_
    refine lv_if_ne (tgt := 541) C.hx C.hb dL_law_526 (by decide) (fun h9 => absurd rfl h9) (fun _ => ?_)
    refine lv_aload_n C.hx C.hb dL_law_529 rfl (lv_at hl 5 rfl) ?_
    refine lv_iconst (v := 0) C.hx C.hb dL_law_530 (by decide) ?_
    refine lq_o C hP dL_law_531 ?_
    refine lv_iload C.hx C.hb dL_law_532 (lv_at hl 0 rfl) ?_
    refine lv_i2l (v := w.toInt64) C.hx C.hb dL_law_534 rfl ?_
    refine W.lcmp C.hx C.hb dL_law_535 ?_
    refine lv_if_eq (tgt := 541) C.hx C.hb dL_law_536 (by decide) (fun _ => ?_) (fun h9 => absurd (cmp_self _) h9)
    refine lv_goto (tgt := 2318) C.hx C.hb dL_law_541 (by decide) ?_
    exact KK ⟨nI 0, nI 4294967295, nI nd1, tp, fd1, ee, oo1, tt1, rr, sw, hh, (Z.ca 1)⟩ ⟨v, nI 0, nI 4294967295, nI 0, nW g, nW a, nW u, nW sl, nW kp, nI mm, nW P1, nW L1, z1, z2, nW r1, z3, vd1, nI nd1, z4, z5, z6, z7, z8, z9, z10, txt, txd⟩ (vp_updL o 0 w.toInt64) H locs ls ⟨0, nI 4294967295, nd1, tp, fd1, ee, oo1, tt1, rr, sw, hh, (Z.ca 1), v, nI 0, g, a, u, sl, kp, mm, P1, L1, z1, z2, r1, z3, vd1, z4, z5, z6, z7, z8, z9, z10, txt, txd, bb, rfl, rfl, (TP_0 _ _ bb), hDD, hST, hOF⟩ hP hD hS (lv_sub hl [2, 3, 4, 5, 6] rfl)
  · refine lv_aload_n C.hx C.hb dL_law_500 rfl (lv_at hl 1 rfl) ?_
    refine lv_aload_n C.hx C.hb dL_law_501 rfl (lv_at hl 3 rfl) ?_
    refine lqL (r := 1) (c0 := ⟨nI T, er, nI nd, tp, fd, ee, oo, tt, rr, sw, hh, tx⟩) (c1 := ⟨nI 0, nI p9, nI nd, tp, fd, ee, oo1, tt1, rr, sw, hh, (Z.ca 1)⟩) (m0 := ⟨v, nI T, er, th, nW g, nW a, nW u, nW sl, nW kp, nI mm, nW P0, nW L0, sn, pv, nW r0, gn, vd, nI nd, x1, x2, x3, x4, x5, x6, x7, txt, txd⟩) (o := o) (o1 := o) (As := [.ref (Z.ca 0), .ref Z.q]) (rest := []) C (c_L_decode fu l C.hl0 dC dI K Z.kI Z.kE Z.kL Z.ca Z.a Z.b Z.oa Z.ob Z.ra Z.sa Z.ha Z.ux Z.uy tx (nI T) er (nI nd) tp fd ee oo tt rr sw hh Z.q o H.size _ e1 1 o (Or.inr ⟨rfl, rfl, rfl⟩)) gL_law_L_decode qL_decode rfl ⟨(Nat.le_of_ble_eq_true rfl), (Nat.le_of_ble_eq_true rfl)⟩ ⟨rfl, rfl⟩ hP hD hS hl.1 rfl rfl (Nat.le_of_ble_eq_true rfl) dL_law_502 ⟨by omega, by omega⟩ (fun H locs hP hD hS => ?_)
    refine W.widen (k := cells + 8) (n := slots + 48) (by omega) (by omega) ?_
    refine lv_istore (lv' := [(5, .int 1), (0, .ref b), (1, .ref (Z.ca 0)), (2, .ref (Z.ma 0)), (3, .ref Z.q), (4, .int i)]) C.hx C.hb dL_law_505 hl (by decide) rfl (fun ls hl => ?_)
    refine lv_aload_n C.hx C.hb dL_law_507 rfl (lv_at hl 3 rfl) ?_
    refine lqMi (z := nI 0) (c0 := ⟨nI 0, nI p9, nI nd, tp, fd, ee, oo1, tt1, rr, sw, hh, (Z.ca 1)⟩) (m0 := ⟨v, nI T, er, th, nW g, nW a, nW u, nW sl, nW kp, nI mm, nW P0, nW L0, sn, pv, nW r0, gn, vd, nI nd, x1, x2, x3, x4, x5, x6, x7, txt, txd⟩) (m1 := ⟨v, nI 0, nI p9, nI 1, nW g, nW a, nW u, nW sl, nW kp, nI mm, nW P1, nW L1, z1, z2, nW r1, z3, vd, nI nd, z4, z5, z6, z7, z8, z9, z10, txt, txd⟩) (o := o) (As := []) (rest := []) C (c_X8_decode fu l dC dI Z.kI Z.kB Z.kZ Z.ma v (nI T) er th (nW g) (nW a) (nW u) (nW sl) (nW kp) (nI mm) (nW P0) (nW L0) sn pv (nW r0) gn vd (nI nd) x1 x2 x3 x4 x5 x6 x7 txt txd H.size _ e2) gL_law_X8_decode qX8_decode rfl ⟨(Nat.le_of_ble_eq_true rfl), (Nat.le_of_ble_eq_true rfl)⟩ ⟨rfl, rfl⟩ hP hD hS hl.1 rfl rfl (Nat.le_of_ble_eq_true rfl) dL_law_508 ⟨by omega, by omega⟩ (fun H locs hP hD hS => ?_)
    refine lv_istore (lv' := [(6, .int (nI 0)), (5, .int 1), (0, .ref b), (1, .ref (Z.ca 0)), (2, .ref (Z.ma 0)), (3, .ref Z.q), (4, .int i)]) C.hx C.hb dL_law_511 hl (by decide) rfl (fun ls hl => ?_)
    refine lv_aload_n C.hx C.hb dL_law_513 rfl (lv_at hl 4 rfl) ?_
    refine lqMo (z := nI 1) (c0 := ⟨nI 0, nI p9, nI nd, tp, fd, ee, oo1, tt1, rr, sw, hh, (Z.ca 1)⟩) (m0 := ⟨v, nI 0, nI p9, nI 1, nW g, nW a, nW u, nW sl, nW kp, nI mm, nW P1, nW L1, z1, z2, nW r1, z3, vd, nI nd, z4, z5, z6, z7, z8, z9, z10, txt, txd⟩) (o := o) (As := []) (rest := []) C (c_X8_thrown l dC dI Z.kI Z.kB Z.kZ Z.ma v (nI 0) (nI p9) (nI 1) (nW g) (nW a) (nW u) (nW sl) (nW kp) (nI mm) (nW P1) (nW L1) z1 z2 (nW r1) z3 vd (nI nd) z4 z5 z6 z7 z8 z9 z10 txt txd (nI 1) rfl) gL_law_X8_thrown qX8_thrown rfl ⟨(Nat.le_of_ble_eq_true rfl), (Nat.le_of_ble_eq_true rfl)⟩ ⟨rfl, rfl⟩ hP hD hS hl.1 rfl rfl (Nat.le_of_ble_eq_true rfl) dL_law_514 ⟨by omega, by omega⟩ (fun H locs hP hD hS => ?_)
    refine lv_iload C.hx C.hb dL_law_517 (lv_at hl 1 rfl) ?_
    refine lv_icmp_eq (tgt := 524) C.hx C.hb dL_law_519 (by decide) (fun _ => ?_) (fun h9 => absurd (by first | rfl | decide) h9)
    refine lv_iload C.hx C.hb dL_law_524 (lv_at hl 1 rfl) ?_
    refine lv_if_ne (tgt := 541) C.hx C.hb dL_law_526 (by decide) (fun _ => ?_) (fun h9 => absurd h9 (by decide))
    refine lv_goto (tgt := 2318) C.hx C.hb dL_law_541 (by decide) ?_
    exact KK ⟨nI 0, nI p9, nI nd, tp, fd, ee, oo1, tt1, rr, sw, hh, (Z.ca 1)⟩ ⟨v, nI 0, nI p9, nI 1, nW g, nW a, nW u, nW sl, nW kp, nI mm, nW P1, nW L1, z1, z2, nW r1, z3, vd, nI nd, z4, z5, z6, z7, z8, z9, z10, txt, txd⟩ o H locs ls ⟨0, nI p9, nd, tp, fd, ee, oo1, tt1, rr, sw, hh, (Z.ca 1), v, nI 1, g, a, u, sl, kp, mm, P1, L1, z1, z2, r1, z3, vd, z4, z5, z6, z7, z8, z9, z10, txt, txd, bb, rfl, rfl, (TP_0 _ _ bb), hDD, hST, hOF⟩ hP hD hS (lv_sub hl [2, 3, 4, 5, 6] rfl)
set_option maxHeartbeats 4000000 in
set_option maxRecDepth 100000 in
theorem lc_4 (C : LC p l s m args c A0 K dC dI Z b L xs) (hf : 20000 ≤ fu) (hR : REL c0 m0) (hP : va_P (dC, dI) vwCl (LW Z c0 m0 o) H) (hD : va_D A0 (LW Z c0 m0 o)) (hS : va_S A0 s.heap H locs) (hl : lv_has ls 9 [(0, .ref b), (1, .ref (Z.ca 0)), (2, .ref (Z.ma 0)), (3, .ref Z.q), (4, .int i)])  (hcl : cells + 8 ≤ room_1.cells ∧ slots + 48 ≤ room_1.slots) (KK : LKK p l e s m args below meth c (cells + 8) (slots + 48) Q A0 dC dI Z b i) : W p l e room_1 s m args below meth c H locs cells slots Q (F0 m 544 ls []) := by
  obtain ⟨hc1, hc2⟩ := hcl
  obtain ⟨T, er, nd, tp, fd, ee, oo, tt, rr, sw, hh, tx, v, th, g, a, u, sl, kp, mm, P0, L0, sn, pv, r0, gn, vd, x1, x2, x3, x4, x5, x6, x7, txt, txd, bb, rfl, rfl, hTP, hDD, hST, hOF⟩ := hR
  have hRE := hST.1
  have hG := hST.2.1
  obtain ⟨e1, e2⟩ := t_errorPosition th er
  refine lv_aload_n C.hx C.hb dL_law_544 rfl (lv_at hl 1 rfl) ?_
  refine lqRi (z := er) (c0 := ⟨nI T, er, nI nd, tp, fd, ee, oo, tt, rr, sw, hh, tx⟩) (m0 := ⟨v, nI T, er, th, nW g, nW a, nW u, nW sl, nW kp, nI mm, nW P0, nW L0, sn, pv, nW r0, gn, vd, nI nd, x1, x2, x3, x4, x5, x6, x7, txt, txd⟩) (o := o) (As := []) (rest := []) C (c_X7_errorPosition l dC dI Z.kI Z.kE Z.ca Z.a Z.b Z.oa Z.ob Z.ra Z.sa Z.ha Z.ux Z.uy tx (nI T) er (nI nd) tp fd ee oo tt rr sw hh _ e1) gL_law_X7_errorPosition qX7_errorPosition rfl ⟨(Nat.le_of_ble_eq_true rfl), (Nat.le_of_ble_eq_true rfl)⟩ ⟨rfl, rfl⟩ hP hD hS hl.1 rfl rfl (Nat.le_of_ble_eq_true rfl) dL_law_545 ⟨by omega, by omega⟩ (fun H locs hP hD hS => ?_)
  refine lv_aload_n C.hx C.hb dL_law_548 rfl (lv_at hl 2 rfl) ?_
  refine lqMi (z := er) (c0 := ⟨nI T, er, nI nd, tp, fd, ee, oo, tt, rr, sw, hh, tx⟩) (m0 := ⟨v, nI T, er, th, nW g, nW a, nW u, nW sl, nW kp, nI mm, nW P0, nW L0, sn, pv, nW r0, gn, vd, nI nd, x1, x2, x3, x4, x5, x6, x7, txt, txd⟩) (m1 := ⟨v, nI T, er, nI 0, nW g, nW a, nW u, nW sl, nW kp, nI mm, nW P0, nW L0, sn, pv, nW r0, gn, vd, nI nd, x1, x2, x3, x4, x5, x6, x7, txt, txd⟩) (o := o) (As := []) (rest := [.int er]) C (c_X8_errorPosition l dC dI Z.kI Z.kB Z.kZ Z.ma v (nI T) er th (nW g) (nW a) (nW u) (nW sl) (nW kp) (nI mm) (nW P0) (nW L0) sn pv (nW r0) gn vd (nI nd) x1 x2 x3 x4 x5 x6 x7 txt txd H.size _ e2) gL_law_X8_errorPosition qX8_errorPosition rfl ⟨(Nat.le_of_ble_eq_true rfl), (Nat.le_of_ble_eq_true rfl)⟩ ⟨rfl, rfl⟩ hP hD hS hl.1 rfl rfl (Nat.le_of_ble_eq_true rfl) dL_law_549 ⟨by omega, by omega⟩ (fun H locs hP hD hS => ?_)
  refine lv_icmp_eq (tgt := 2318) C.hx C.hb dL_law_552 (by decide) (fun _ => ?_) (fun h9 => absurd (by first | rfl | decide) h9)
  refine W.widen (k := cells + 8) (n := slots + 48) (by omega) (by omega) ?_
  exact KK ⟨nI T, er, nI nd, tp, fd, ee, oo, tt, rr, sw, hh, tx⟩ ⟨v, nI T, er, nI 0, nW g, nW a, nW u, nW sl, nW kp, nI mm, nW P0, nW L0, sn, pv, nW r0, gn, vd, nI nd, x1, x2, x3, x4, x5, x6, x7, txt, txd⟩ o H locs ls ⟨T, er, nd, tp, fd, ee, oo, tt, rr, sw, hh, tx, v, nI 0, g, a, u, sl, kp, mm, P0, L0, sn, pv, r0, gn, vd, x1, x2, x3, x4, x5, x6, x7, txt, txd, bb, rfl, rfl, hTP, hDD, hST, hOF⟩ hP hD hS (lv_sub hl [0, 1, 2, 3, 4] rfl)
set_option maxHeartbeats 4000000 in
set_option maxRecDepth 100000 in
theorem lc_5 (C : LC p l s m args c A0 K dC dI Z b L xs) (hf : 20000 ≤ fu) (hR : REL c0 m0) (hP : va_P (dC, dI) vwCl (LW Z c0 m0 o) H) (hD : va_D A0 (LW Z c0 m0 o)) (hS : va_S A0 s.heap H locs) (hl : lv_has ls 9 [(0, .ref b), (1, .ref (Z.ca 0)), (2, .ref (Z.ma 0)), (3, .ref Z.q), (4, .int i)]) (hi1 : vp_in (i + 1) L) (hcl : cells + 8 ≤ room_1.cells ∧ slots + 48 ≤ room_1.slots) (KK : LKK p l e s m args below meth c (cells + 8) (slots + 48) Q A0 dC dI Z b i) : W p l e room_1 s m args below meth c H locs cells slots Q (F0 m 557 ls []) := by
  obtain ⟨hc1, hc2⟩ := hcl
  obtain ⟨T, er, nd, tp, fd, ee, oo, tt, rr, sw, hh, tx, v, th, g, a, u, sl, kp, mm, P0, L0, sn, pv, r0, gn, vd, x1, x2, x3, x4, x5, x6, x7, txt, txd, bb, rfl, rfl, hTP, hDD, hST, hOF⟩ := hR
  have hRE := hST.1
  have hG := hST.2.1
  rcases t_encode fu hf th hST a tp fd oo tt rr sw (xs (i + 1).toNatClampNeg) with ⟨w, ee1, hh1, g1, a1, u1, m1, e1, e2, hST⟩ | ⟨e1, e2⟩ | ⟨e1, e2⟩
  · refine lv_aload_n C.hx C.hb dL_law_557 rfl (lv_at hl 1 rfl) ?_
    refine lv_aload_n C.hx C.hb dL_law_558 rfl (lv_at hl 0 rfl) ?_
    refine lv_iload C.hx C.hb dL_law_559 (lv_at hl 4 rfl) ?_
    refine lv_iconst (v := 1) C.hx C.hb dL_law_561 (by decide) ?_
    refine lv_iadd C.hx C.hb dL_law_562 ?_
    refine lq_x C hS hi1 dL_law_563 ?_
    refine lv_aload_n C.hx C.hb dL_law_564 rfl (lv_at hl 3 rfl) ?_
    refine lqL (r := 0) (c0 := ⟨nI T, er, nI nd, tp, fd, ee, oo, tt, rr, sw, hh, tx⟩) (c1 := ⟨nI T, er, nI nd, tp, fd, ee1, oo, tt, rr, sw, hh1, tx⟩) (m0 := ⟨v, nI T, er, th, nW g, nW a, nW u, nW sl, nW kp, nI mm, nW P0, nW L0, sn, pv, nW r0, gn, vd, nI nd, x1, x2, x3, x4, x5, x6, x7, txt, txd⟩) (o := o) (o1 := (vp_updL o 0 w.toInt64)) (As := [.ref (Z.ca 0), .int (xs (i + 1).toNatClampNeg), .ref Z.q]) (rest := []) C (c_L_encode fu l C.hl0 dC dI K Z.kI Z.kE Z.kL Z.ca Z.a Z.b Z.oa Z.ob Z.ra Z.sa Z.ha Z.ux Z.uy tx (nI T) er (nI nd) tp fd ee oo tt rr sw hh (xs (i + 1).toNatClampNeg) Z.q o H.size _ e1 0 (vp_updL o 0 w.toInt64) (Or.inl ⟨w, rfl, rfl, rfl⟩)) gL_law_L_encode qL_encode rfl ⟨(Nat.le_of_ble_eq_true rfl), (Nat.le_of_ble_eq_true rfl)⟩ ⟨rfl, rfl⟩ hP hD hS hl.1 rfl rfl (Nat.le_of_ble_eq_true rfl) dL_law_565 ⟨by omega, by omega⟩ (fun H locs hP hD hS => ?_)
    refine W.widen (k := cells + 8) (n := slots + 48) (by omega) (by omega) ?_
    refine lv_istore (lv' := [(5, .int 0), (0, .ref b), (1, .ref (Z.ca 0)), (2, .ref (Z.ma 0)), (3, .ref Z.q), (4, .int i)]) C.hx C.hb dL_law_568 hl (by decide) rfl (fun ls hl => ?_)
    refine lv_aload_n C.hx C.hb dL_law_570 rfl (lv_at hl 3 rfl) ?_
    refine lv_aload_n C.hx C.hb dL_law_571 rfl (lv_at hl 1 rfl) ?_
    refine lv_iload C.hx C.hb dL_law_572 (lv_at hl 5 rfl) ?_
    refine lv_iconst (v := 1) C.hx C.hb dL_law_574 (by decide) ?_
    refine lv_iadd C.hx C.hb dL_law_575 ?_
    refine lq_x C hS hi1 dL_law_576 ?_
    refine lqMi (z := w) (c0 := ⟨nI T, er, nI nd, tp, fd, ee1, oo, tt, rr, sw, hh1, tx⟩) (m0 := ⟨v, nI T, er, th, nW g, nW a, nW u, nW sl, nW kp, nI mm, nW P0, nW L0, sn, pv, nW r0, gn, vd, nI nd, x1, x2, x3, x4, x5, x6, x7, txt, txd⟩) (m1 := ⟨v, nI T, er, nI 0, nW g1, nW a1, nW u1, nW sl, nW kp, nI m1, nW P0, nW L0, sn, pv, nW r0, gn, vd, nI nd, x1, x2, x3, x4, x5, x6, x7, txt, txd⟩) (o := (vp_updL o 0 w.toInt64)) (As := [.int (xs (i + 1).toNatClampNeg)]) (rest := []) C (c_X8_encode fu l dC dI Z.kI Z.kB Z.kZ Z.ma v (nI T) er th (nW g) (nW a) (nW u) (nW sl) (nW kp) (nI mm) (nW P0) (nW L0) sn pv (nW r0) gn vd (nI nd) x1 x2 x3 x4 x5 x6 x7 txt txd (xs (i + 1).toNatClampNeg) H.size _ e2) gL_law_X8_encode qX8_encode rfl ⟨(Nat.le_of_ble_eq_true rfl), (Nat.le_of_ble_eq_true rfl)⟩ ⟨rfl, rfl⟩ hP hD hS hl.1 rfl rfl (Nat.le_of_ble_eq_true rfl) dL_law_577 ⟨by omega, by omega⟩ (fun H locs hP hD hS => ?_)
    refine lv_istore (lv' := [(6, .int w), (5, .int 0), (0, .ref b), (1, .ref (Z.ca 0)), (2, .ref (Z.ma 0)), (3, .ref Z.q), (4, .int i)]) C.hx C.hb dL_law_580 hl (by decide) rfl (fun ls hl => ?_)
    refine lv_aload_n C.hx C.hb dL_law_582 rfl (lv_at hl 4 rfl) ?_
    refine lqMo (z := nI 0) (c0 := ⟨nI T, er, nI nd, tp, fd, ee1, oo, tt, rr, sw, hh1, tx⟩) (m0 := ⟨v, nI T, er, nI 0, nW g1, nW a1, nW u1, nW sl, nW kp, nI m1, nW P0, nW L0, sn, pv, nW r0, gn, vd, nI nd, x1, x2, x3, x4, x5, x6, x7, txt, txd⟩) (o := (vp_updL o 0 w.toInt64)) (As := []) (rest := []) C (c_X8_thrown l dC dI Z.kI Z.kB Z.kZ Z.ma v (nI T) er (nI 0) (nW g1) (nW a1) (nW u1) (nW sl) (nW kp) (nI m1) (nW P0) (nW L0) sn pv (nW r0) gn vd (nI nd) x1 x2 x3 x4 x5 x6 x7 txt txd (nI 0) rfl) gL_law_X8_thrown qX8_thrown rfl ⟨(Nat.le_of_ble_eq_true rfl), (Nat.le_of_ble_eq_true rfl)⟩ ⟨rfl, rfl⟩ hP hD hS hl.1 rfl rfl (Nat.le_of_ble_eq_true rfl) dL_law_583 ⟨by omega, by omega⟩ (fun H locs hP hD hS => ?_)
    refine lv_iload C.hx C.hb dL_law_586 (lv_at hl 1 rfl) ?_
    refine lv_icmp_eq (tgt := 593) C.hx C.hb dL_law_588 (by decide) (fun _ => ?_) (fun h9 => absurd (by first | rfl | decide) h9)
    refine lv_iload C.hx C.hb dL_law_593 (lv_at hl 1 rfl) ?_
    refine lv_if_ne (tgt := 610) C.hx C.hb dL_law_595 (by decide) (fun h9 => absurd rfl h9) (fun _ => ?_)
    refine lv_aload_n C.hx C.hb dL_law_598 rfl (lv_at hl 5 rfl) ?_
    refine lv_iconst (v := 0) C.hx C.hb dL_law_599 (by decide) ?_
    refine lq_o C hP dL_law_600 ?_
    refine lv_iload C.hx C.hb dL_law_601 (lv_at hl 0 rfl) ?_
    refine lv_i2l (v := w.toInt64) C.hx C.hb dL_law_603 rfl ?_
    refine W.lcmp C.hx C.hb dL_law_604 ?_
    refine lv_if_eq (tgt := 610) C.hx C.hb dL_law_605 (by decide) (fun _ => ?_) (fun h9 => absurd (cmp_self _) h9)
    refine lv_goto (tgt := 2318) C.hx C.hb dL_law_610 (by decide) ?_
    exact KK ⟨nI T, er, nI nd, tp, fd, ee1, oo, tt, rr, sw, hh1, tx⟩ ⟨v, nI T, er, nI 0, nW g1, nW a1, nW u1, nW sl, nW kp, nI m1, nW P0, nW L0, sn, pv, nW r0, gn, vd, nI nd, x1, x2, x3, x4, x5, x6, x7, txt, txd⟩ (vp_updL o 0 w.toInt64) H locs ls ⟨T, er, nd, tp, fd, ee1, oo, tt, rr, sw, hh1, tx, v, nI 0, g1, a1, u1, sl, kp, m1, P0, L0, sn, pv, r0, gn, vd, x1, x2, x3, x4, x5, x6, x7, txt, txd, bb, rfl, rfl, hTP, hDD, hST, hOF⟩ hP hD hS (lv_sub hl [2, 3, 4, 5, 6] rfl)
  · refine lv_aload_n C.hx C.hb dL_law_557 rfl (lv_at hl 1 rfl) ?_
    refine lv_aload_n C.hx C.hb dL_law_558 rfl (lv_at hl 0 rfl) ?_
    refine lv_iload C.hx C.hb dL_law_559 (lv_at hl 4 rfl) ?_
    refine lv_iconst (v := 1) C.hx C.hb dL_law_561 (by decide) ?_
    refine lv_iadd C.hx C.hb dL_law_562 ?_
    refine lq_x C hS hi1 dL_law_563 ?_
    refine lv_aload_n C.hx C.hb dL_law_564 rfl (lv_at hl 3 rfl) ?_
    refine lqL (r := 1) (c0 := ⟨nI T, er, nI nd, tp, fd, ee, oo, tt, rr, sw, hh, tx⟩) (c1 := ⟨nI T, er, nI nd, tp, fd, ee, oo, tt, rr, sw, hh, tx⟩) (m0 := ⟨v, nI T, er, th, nW g, nW a, nW u, nW sl, nW kp, nI mm, nW P0, nW L0, sn, pv, nW r0, gn, vd, nI nd, x1, x2, x3, x4, x5, x6, x7, txt, txd⟩) (o := o) (o1 := o) (As := [.ref (Z.ca 0), .int (xs (i + 1).toNatClampNeg), .ref Z.q]) (rest := []) C (c_L_encode fu l C.hl0 dC dI K Z.kI Z.kE Z.kL Z.ca Z.a Z.b Z.oa Z.ob Z.ra Z.sa Z.ha Z.ux Z.uy tx (nI T) er (nI nd) tp fd ee oo tt rr sw hh (xs (i + 1).toNatClampNeg) Z.q o H.size _ e1 1 o (Or.inr (Or.inl ⟨rfl, rfl, rfl⟩))) gL_law_L_encode qL_encode rfl ⟨(Nat.le_of_ble_eq_true rfl), (Nat.le_of_ble_eq_true rfl)⟩ ⟨rfl, rfl⟩ hP hD hS hl.1 rfl rfl (Nat.le_of_ble_eq_true rfl) dL_law_565 ⟨by omega, by omega⟩ (fun H locs hP hD hS => ?_)
    refine W.widen (k := cells + 8) (n := slots + 48) (by omega) (by omega) ?_
    refine lv_istore (lv' := [(5, .int 1), (0, .ref b), (1, .ref (Z.ca 0)), (2, .ref (Z.ma 0)), (3, .ref Z.q), (4, .int i)]) C.hx C.hb dL_law_568 hl (by decide) rfl (fun ls hl => ?_)
    refine lv_aload_n C.hx C.hb dL_law_570 rfl (lv_at hl 3 rfl) ?_
    refine lv_aload_n C.hx C.hb dL_law_571 rfl (lv_at hl 1 rfl) ?_
    refine lv_iload C.hx C.hb dL_law_572 (lv_at hl 5 rfl) ?_
    refine lv_iconst (v := 1) C.hx C.hb dL_law_574 (by decide) ?_
    refine lv_iadd C.hx C.hb dL_law_575 ?_
    refine lq_x C hS hi1 dL_law_576 ?_
    refine lqMi (z := nI 0) (c0 := ⟨nI T, er, nI nd, tp, fd, ee, oo, tt, rr, sw, hh, tx⟩) (m0 := ⟨v, nI T, er, th, nW g, nW a, nW u, nW sl, nW kp, nI mm, nW P0, nW L0, sn, pv, nW r0, gn, vd, nI nd, x1, x2, x3, x4, x5, x6, x7, txt, txd⟩) (m1 := ⟨v, nI T, er, nI 1, nW g, nW a, nW u, nW sl, nW kp, nI mm, nW P0, nW L0, sn, pv, nW r0, gn, vd, nI nd, x1, x2, x3, x4, x5, x6, x7, txt, txd⟩) (o := o) (As := [.int (xs (i + 1).toNatClampNeg)]) (rest := []) C (c_X8_encode fu l dC dI Z.kI Z.kB Z.kZ Z.ma v (nI T) er th (nW g) (nW a) (nW u) (nW sl) (nW kp) (nI mm) (nW P0) (nW L0) sn pv (nW r0) gn vd (nI nd) x1 x2 x3 x4 x5 x6 x7 txt txd (xs (i + 1).toNatClampNeg) H.size _ e2) gL_law_X8_encode qX8_encode rfl ⟨(Nat.le_of_ble_eq_true rfl), (Nat.le_of_ble_eq_true rfl)⟩ ⟨rfl, rfl⟩ hP hD hS hl.1 rfl rfl (Nat.le_of_ble_eq_true rfl) dL_law_577 ⟨by omega, by omega⟩ (fun H locs hP hD hS => ?_)
    refine lv_istore (lv' := [(6, .int (nI 0)), (5, .int 1), (0, .ref b), (1, .ref (Z.ca 0)), (2, .ref (Z.ma 0)), (3, .ref Z.q), (4, .int i)]) C.hx C.hb dL_law_580 hl (by decide) rfl (fun ls hl => ?_)
    refine lv_aload_n C.hx C.hb dL_law_582 rfl (lv_at hl 4 rfl) ?_
    refine lqMo (z := nI 1) (c0 := ⟨nI T, er, nI nd, tp, fd, ee, oo, tt, rr, sw, hh, tx⟩) (m0 := ⟨v, nI T, er, nI 1, nW g, nW a, nW u, nW sl, nW kp, nI mm, nW P0, nW L0, sn, pv, nW r0, gn, vd, nI nd, x1, x2, x3, x4, x5, x6, x7, txt, txd⟩) (o := o) (As := []) (rest := []) C (c_X8_thrown l dC dI Z.kI Z.kB Z.kZ Z.ma v (nI T) er (nI 1) (nW g) (nW a) (nW u) (nW sl) (nW kp) (nI mm) (nW P0) (nW L0) sn pv (nW r0) gn vd (nI nd) x1 x2 x3 x4 x5 x6 x7 txt txd (nI 1) rfl) gL_law_X8_thrown qX8_thrown rfl ⟨(Nat.le_of_ble_eq_true rfl), (Nat.le_of_ble_eq_true rfl)⟩ ⟨rfl, rfl⟩ hP hD hS hl.1 rfl rfl (Nat.le_of_ble_eq_true rfl) dL_law_583 ⟨by omega, by omega⟩ (fun H locs hP hD hS => ?_)
    refine lv_iload C.hx C.hb dL_law_586 (lv_at hl 1 rfl) ?_
    refine lv_icmp_eq (tgt := 593) C.hx C.hb dL_law_588 (by decide) (fun _ => ?_) (fun h9 => absurd (by first | rfl | decide) h9)
    refine lv_iload C.hx C.hb dL_law_593 (lv_at hl 1 rfl) ?_
    refine lv_if_ne (tgt := 610) C.hx C.hb dL_law_595 (by decide) (fun _ => ?_) (fun h9 => absurd h9 (by decide))
    refine lv_goto (tgt := 2318) C.hx C.hb dL_law_610 (by decide) ?_
    exact KK ⟨nI T, er, nI nd, tp, fd, ee, oo, tt, rr, sw, hh, tx⟩ ⟨v, nI T, er, nI 1, nW g, nW a, nW u, nW sl, nW kp, nI mm, nW P0, nW L0, sn, pv, nW r0, gn, vd, nI nd, x1, x2, x3, x4, x5, x6, x7, txt, txd⟩ o H locs ls ⟨T, er, nd, tp, fd, ee, oo, tt, rr, sw, hh, tx, v, nI 1, g, a, u, sl, kp, mm, P0, L0, sn, pv, r0, gn, vd, x1, x2, x3, x4, x5, x6, x7, txt, txd, bb, rfl, rfl, hTP, hDD, hST, hOF⟩ hP hD hS (lv_sub hl [2, 3, 4, 5, 6] rfl)
  · refine lv_aload_n C.hx C.hb dL_law_557 rfl (lv_at hl 1 rfl) ?_
    refine lv_aload_n C.hx C.hb dL_law_558 rfl (lv_at hl 0 rfl) ?_
    refine lv_iload C.hx C.hb dL_law_559 (lv_at hl 4 rfl) ?_
    refine lv_iconst (v := 1) C.hx C.hb dL_law_561 (by decide) ?_
    refine lv_iadd C.hx C.hb dL_law_562 ?_
    refine lq_x C hS hi1 dL_law_563 ?_
    refine lv_aload_n C.hx C.hb dL_law_564 rfl (lv_at hl 3 rfl) ?_
    refine lqL (r := 2) (c0 := ⟨nI T, er, nI nd, tp, fd, ee, oo, tt, rr, sw, hh, tx⟩) (c1 := ⟨nI T, er, nI nd, tp, fd, ee, oo, tt, rr, sw, hh, tx⟩) (m0 := ⟨v, nI T, er, th, nW g, nW a, nW u, nW sl, nW kp, nI mm, nW P0, nW L0, sn, pv, nW r0, gn, vd, nI nd, x1, x2, x3, x4, x5, x6, x7, txt, txd⟩) (o := o) (o1 := o) (As := [.ref (Z.ca 0), .int (xs (i + 1).toNatClampNeg), .ref Z.q]) (rest := []) C (c_L_encode fu l C.hl0 dC dI K Z.kI Z.kE Z.kL Z.ca Z.a Z.b Z.oa Z.ob Z.ra Z.sa Z.ha Z.ux Z.uy tx (nI T) er (nI nd) tp fd ee oo tt rr sw hh (xs (i + 1).toNatClampNeg) Z.q o H.size _ e1 2 o (Or.inr (Or.inr ⟨rfl, rfl, rfl⟩))) gL_law_L_encode qL_encode rfl ⟨(Nat.le_of_ble_eq_true rfl), (Nat.le_of_ble_eq_true rfl)⟩ ⟨rfl, rfl⟩ hP hD hS hl.1 rfl rfl (Nat.le_of_ble_eq_true rfl) dL_law_565 ⟨by omega, by omega⟩ (fun H locs hP hD hS => ?_)
    refine W.widen (k := cells + 8) (n := slots + 48) (by omega) (by omega) ?_
    refine lv_istore (lv' := [(5, .int 2), (0, .ref b), (1, .ref (Z.ca 0)), (2, .ref (Z.ma 0)), (3, .ref Z.q), (4, .int i)]) C.hx C.hb dL_law_568 hl (by decide) rfl (fun ls hl => ?_)
    refine lv_aload_n C.hx C.hb dL_law_570 rfl (lv_at hl 3 rfl) ?_
    refine lv_aload_n C.hx C.hb dL_law_571 rfl (lv_at hl 1 rfl) ?_
    refine lv_iload C.hx C.hb dL_law_572 (lv_at hl 5 rfl) ?_
    refine lv_iconst (v := 1) C.hx C.hb dL_law_574 (by decide) ?_
    refine lv_iadd C.hx C.hb dL_law_575 ?_
    refine lq_x C hS hi1 dL_law_576 ?_
    refine lqMi (z := nI 0) (c0 := ⟨nI T, er, nI nd, tp, fd, ee, oo, tt, rr, sw, hh, tx⟩) (m0 := ⟨v, nI T, er, th, nW g, nW a, nW u, nW sl, nW kp, nI mm, nW P0, nW L0, sn, pv, nW r0, gn, vd, nI nd, x1, x2, x3, x4, x5, x6, x7, txt, txd⟩) (m1 := ⟨v, nI T, er, nI 2, nW g, nW a, nW u, nW sl, nW kp, nI mm, nW P0, nW L0, sn, pv, nW r0, gn, vd, nI nd, x1, x2, x3, x4, x5, x6, x7, txt, txd⟩) (o := o) (As := [.int (xs (i + 1).toNatClampNeg)]) (rest := []) C (c_X8_encode fu l dC dI Z.kI Z.kB Z.kZ Z.ma v (nI T) er th (nW g) (nW a) (nW u) (nW sl) (nW kp) (nI mm) (nW P0) (nW L0) sn pv (nW r0) gn vd (nI nd) x1 x2 x3 x4 x5 x6 x7 txt txd (xs (i + 1).toNatClampNeg) H.size _ e2) gL_law_X8_encode qX8_encode rfl ⟨(Nat.le_of_ble_eq_true rfl), (Nat.le_of_ble_eq_true rfl)⟩ ⟨rfl, rfl⟩ hP hD hS hl.1 rfl rfl (Nat.le_of_ble_eq_true rfl) dL_law_577 ⟨by omega, by omega⟩ (fun H locs hP hD hS => ?_)
    refine lv_istore (lv' := [(6, .int (nI 0)), (5, .int 2), (0, .ref b), (1, .ref (Z.ca 0)), (2, .ref (Z.ma 0)), (3, .ref Z.q), (4, .int i)]) C.hx C.hb dL_law_580 hl (by decide) rfl (fun ls hl => ?_)
    refine lv_aload_n C.hx C.hb dL_law_582 rfl (lv_at hl 4 rfl) ?_
    refine lqMo (z := nI 2) (c0 := ⟨nI T, er, nI nd, tp, fd, ee, oo, tt, rr, sw, hh, tx⟩) (m0 := ⟨v, nI T, er, nI 2, nW g, nW a, nW u, nW sl, nW kp, nI mm, nW P0, nW L0, sn, pv, nW r0, gn, vd, nI nd, x1, x2, x3, x4, x5, x6, x7, txt, txd⟩) (o := o) (As := []) (rest := []) C (c_X8_thrown l dC dI Z.kI Z.kB Z.kZ Z.ma v (nI T) er (nI 2) (nW g) (nW a) (nW u) (nW sl) (nW kp) (nI mm) (nW P0) (nW L0) sn pv (nW r0) gn vd (nI nd) x1 x2 x3 x4 x5 x6 x7 txt txd (nI 2) rfl) gL_law_X8_thrown qX8_thrown rfl ⟨(Nat.le_of_ble_eq_true rfl), (Nat.le_of_ble_eq_true rfl)⟩ ⟨rfl, rfl⟩ hP hD hS hl.1 rfl rfl (Nat.le_of_ble_eq_true rfl) dL_law_583 ⟨by omega, by omega⟩ (fun H locs hP hD hS => ?_)
    refine lv_iload C.hx C.hb dL_law_586 (lv_at hl 1 rfl) ?_
    refine lv_icmp_eq (tgt := 593) C.hx C.hb dL_law_588 (by decide) (fun _ => ?_) (fun h9 => absurd (by first | rfl | decide) h9)
    refine lv_iload C.hx C.hb dL_law_593 (lv_at hl 1 rfl) ?_
    refine lv_if_ne (tgt := 610) C.hx C.hb dL_law_595 (by decide) (fun _ => ?_) (fun h9 => absurd h9 (by decide))
    refine lv_goto (tgt := 2318) C.hx C.hb dL_law_610 (by decide) ?_
    exact KK ⟨nI T, er, nI nd, tp, fd, ee, oo, tt, rr, sw, hh, tx⟩ ⟨v, nI T, er, nI 2, nW g, nW a, nW u, nW sl, nW kp, nI mm, nW P0, nW L0, sn, pv, nW r0, gn, vd, nI nd, x1, x2, x3, x4, x5, x6, x7, txt, txd⟩ o H locs ls ⟨T, er, nd, tp, fd, ee, oo, tt, rr, sw, hh, tx, v, nI 2, g, a, u, sl, kp, mm, P0, L0, sn, pv, r0, gn, vd, x1, x2, x3, x4, x5, x6, x7, txt, txd, bb, rfl, rfl, hTP, hDD, hST, hOF⟩ hP hD hS (lv_sub hl [2, 3, 4, 5, 6] rfl)
set_option maxHeartbeats 4000000 in
set_option maxRecDepth 100000 in
theorem lc_6 (C : LC p l s m args c A0 K dC dI Z b L xs) (hf : 20000 ≤ fu) (hR : REL c0 m0) (hP : va_P (dC, dI) vwCl (LW Z c0 m0 o) H) (hD : va_D A0 (LW Z c0 m0 o)) (hS : va_S A0 s.heap H locs) (hl : lv_has ls 9 [(0, .ref b), (1, .ref (Z.ca 0)), (2, .ref (Z.ma 0)), (3, .ref Z.q), (4, .int i)])  (hcl : cells + 8 ≤ room_1.cells ∧ slots + 48 ≤ room_1.slots) (KK : LKK p l e s m args below meth c (cells + 8) (slots + 48) Q A0 dC dI Z b i) : W p l e room_1 s m args below meth c H locs cells slots Q (F0 m 613 ls []) := by
  obtain ⟨hc1, hc2⟩ := hcl
  obtain ⟨T, er, nd, tp, fd, ee, oo, tt, rr, sw, hh, tx, v, th, g, a, u, sl, kp, mm, P0, L0, sn, pv, r0, gn, vd, x1, x2, x3, x4, x5, x6, x7, txt, txd, bb, rfl, rfl, hTP, hDD, hST, hOF⟩ := hR
  have hRE := hST.1
  have hG := hST.2.1
  rcases t_encodeTape fu hf th hST a hTP fd oo tt rr sw with ⟨w, ee1, hh1, g1, a1, u1, m1, e1, e2, hST⟩ | ⟨e1, e2⟩ | ⟨e1, e2⟩
  · refine lv_aload_n C.hx C.hb dL_law_613 rfl (lv_at hl 1 rfl) ?_
    refine lv_aload_n C.hx C.hb dL_law_614 rfl (lv_at hl 3 rfl) ?_
    refine lqL (r := 0) (c0 := ⟨nI T, er, nI nd, tp, fd, ee, oo, tt, rr, sw, hh, tx⟩) (c1 := ⟨nI 0, er, nI nd, tp, fd, ee1, oo, tt, rr, sw, hh1, tx⟩) (m0 := ⟨v, nI T, er, th, nW g, nW a, nW u, nW sl, nW kp, nI mm, nW P0, nW L0, sn, pv, nW r0, gn, vd, nI nd, x1, x2, x3, x4, x5, x6, x7, txt, txd⟩) (o := o) (o1 := (vp_updL o 0 w.toInt64)) (As := [.ref (Z.ca 0), .ref Z.q]) (rest := []) C (c_L_encodeTape fu l C.hl0 dC dI K Z.kI Z.kE Z.kL Z.ca Z.a Z.b Z.oa Z.ob Z.ra Z.sa Z.ha Z.ux Z.uy tx (nI T) er (nI nd) tp fd ee oo tt rr sw hh Z.q o H.size _ e1 0 (vp_updL o 0 w.toInt64) (Or.inl ⟨w, rfl, rfl, rfl⟩)) gL_law_L_encodeTape qL_encodeTape rfl ⟨(Nat.le_of_ble_eq_true rfl), (Nat.le_of_ble_eq_true rfl)⟩ ⟨rfl, rfl⟩ hP hD hS hl.1 rfl rfl (Nat.le_of_ble_eq_true rfl) dL_law_615 ⟨by omega, by omega⟩ (fun H locs hP hD hS => ?_)
    refine W.widen (k := cells + 8) (n := slots + 48) (by omega) (by omega) ?_
    refine lv_istore (lv' := [(5, .int 0), (0, .ref b), (1, .ref (Z.ca 0)), (2, .ref (Z.ma 0)), (3, .ref Z.q), (4, .int i)]) C.hx C.hb dL_law_618 hl (by decide) rfl (fun ls hl => ?_)
    refine lv_aload_n C.hx C.hb dL_law_620 rfl (lv_at hl 3 rfl) ?_
    refine lqMi (z := w) (c0 := ⟨nI 0, er, nI nd, tp, fd, ee1, oo, tt, rr, sw, hh1, tx⟩) (m0 := ⟨v, nI T, er, th, nW g, nW a, nW u, nW sl, nW kp, nI mm, nW P0, nW L0, sn, pv, nW r0, gn, vd, nI nd, x1, x2, x3, x4, x5, x6, x7, txt, txd⟩) (m1 := ⟨v, nI 0, er, nI 0, nW g1, nW a1, nW u1, nW sl, nW kp, nI m1, nW P0, nW L0, sn, pv, nW r0, gn, vd, nI nd, x1, x2, x3, x4, x5, x6, x7, txt, txd⟩) (o := (vp_updL o 0 w.toInt64)) (As := []) (rest := []) C (c_X8_encodeTape fu l dC dI Z.kI Z.kB Z.kZ Z.ma v (nI T) er th (nW g) (nW a) (nW u) (nW sl) (nW kp) (nI mm) (nW P0) (nW L0) sn pv (nW r0) gn vd (nI nd) x1 x2 x3 x4 x5 x6 x7 txt txd H.size _ e2) gL_law_X8_encodeTape qX8_encodeTape rfl ⟨(Nat.le_of_ble_eq_true rfl), (Nat.le_of_ble_eq_true rfl)⟩ ⟨rfl, rfl⟩ hP hD hS hl.1 rfl rfl (Nat.le_of_ble_eq_true rfl) dL_law_621 ⟨by omega, by omega⟩ (fun H locs hP hD hS => ?_)
    refine lv_istore (lv' := [(6, .int w), (5, .int 0), (0, .ref b), (1, .ref (Z.ca 0)), (2, .ref (Z.ma 0)), (3, .ref Z.q), (4, .int i)]) C.hx C.hb dL_law_624 hl (by decide) rfl (fun ls hl => ?_)
    refine lv_aload_n C.hx C.hb dL_law_626 rfl (lv_at hl 4 rfl) ?_
    refine lqMo (z := nI 0) (c0 := ⟨nI 0, er, nI nd, tp, fd, ee1, oo, tt, rr, sw, hh1, tx⟩) (m0 := ⟨v, nI 0, er, nI 0, nW g1, nW a1, nW u1, nW sl, nW kp, nI m1, nW P0, nW L0, sn, pv, nW r0, gn, vd, nI nd, x1, x2, x3, x4, x5, x6, x7, txt, txd⟩) (o := (vp_updL o 0 w.toInt64)) (As := []) (rest := []) C (c_X8_thrown l dC dI Z.kI Z.kB Z.kZ Z.ma v (nI 0) er (nI 0) (nW g1) (nW a1) (nW u1) (nW sl) (nW kp) (nI m1) (nW P0) (nW L0) sn pv (nW r0) gn vd (nI nd) x1 x2 x3 x4 x5 x6 x7 txt txd (nI 0) rfl) gL_law_X8_thrown qX8_thrown rfl ⟨(Nat.le_of_ble_eq_true rfl), (Nat.le_of_ble_eq_true rfl)⟩ ⟨rfl, rfl⟩ hP hD hS hl.1 rfl rfl (Nat.le_of_ble_eq_true rfl) dL_law_627 ⟨by omega, by omega⟩ (fun H locs hP hD hS => ?_)
    refine lv_iload C.hx C.hb dL_law_630 (lv_at hl 1 rfl) ?_
    refine lv_icmp_eq (tgt := 637) C.hx C.hb dL_law_632 (by decide) (fun _ => ?_) (fun h9 => absurd (by first | rfl | decide) h9)
    refine lv_iload C.hx C.hb dL_law_637 (lv_at hl 1 rfl) ?_
    refine lv_if_ne (tgt := 654) C.hx C.hb dL_law_639 (by decide) (fun h9 => absurd rfl h9) (fun _ => ?_)
    refine lv_aload_n C.hx C.hb dL_law_642 rfl (lv_at hl 5 rfl) ?_
    refine lv_iconst (v := 0) C.hx C.hb dL_law_643 (by decide) ?_
    refine lq_o C hP dL_law_644 ?_
    refine lv_iload C.hx C.hb dL_law_645 (lv_at hl 0 rfl) ?_
    refine lv_i2l (v := w.toInt64) C.hx C.hb dL_law_647 rfl ?_
    refine W.lcmp C.hx C.hb dL_law_648 ?_
    refine lv_if_eq (tgt := 654) C.hx C.hb dL_law_649 (by decide) (fun _ => ?_) (fun h9 => absurd (cmp_self _) h9)
    refine lv_goto (tgt := 2318) C.hx C.hb dL_law_654 (by decide) ?_
    exact KK ⟨nI 0, er, nI nd, tp, fd, ee1, oo, tt, rr, sw, hh1, tx⟩ ⟨v, nI 0, er, nI 0, nW g1, nW a1, nW u1, nW sl, nW kp, nI m1, nW P0, nW L0, sn, pv, nW r0, gn, vd, nI nd, x1, x2, x3, x4, x5, x6, x7, txt, txd⟩ (vp_updL o 0 w.toInt64) H locs ls ⟨0, er, nd, tp, fd, ee1, oo, tt, rr, sw, hh1, tx, v, nI 0, g1, a1, u1, sl, kp, m1, P0, L0, sn, pv, r0, gn, vd, x1, x2, x3, x4, x5, x6, x7, txt, txd, bb, rfl, rfl, (TP_0 _ _ bb), hDD, hST, hOF⟩ hP hD hS (lv_sub hl [2, 3, 4, 5, 6] rfl)
  · refine lv_aload_n C.hx C.hb dL_law_613 rfl (lv_at hl 1 rfl) ?_
    refine lv_aload_n C.hx C.hb dL_law_614 rfl (lv_at hl 3 rfl) ?_
    refine lqL (r := 1) (c0 := ⟨nI T, er, nI nd, tp, fd, ee, oo, tt, rr, sw, hh, tx⟩) (c1 := ⟨nI T, er, nI nd, tp, fd, ee, oo, tt, rr, sw, hh, tx⟩) (m0 := ⟨v, nI T, er, th, nW g, nW a, nW u, nW sl, nW kp, nI mm, nW P0, nW L0, sn, pv, nW r0, gn, vd, nI nd, x1, x2, x3, x4, x5, x6, x7, txt, txd⟩) (o := o) (o1 := o) (As := [.ref (Z.ca 0), .ref Z.q]) (rest := []) C (c_L_encodeTape fu l C.hl0 dC dI K Z.kI Z.kE Z.kL Z.ca Z.a Z.b Z.oa Z.ob Z.ra Z.sa Z.ha Z.ux Z.uy tx (nI T) er (nI nd) tp fd ee oo tt rr sw hh Z.q o H.size _ e1 1 o (Or.inr (Or.inl ⟨rfl, rfl, rfl⟩))) gL_law_L_encodeTape qL_encodeTape rfl ⟨(Nat.le_of_ble_eq_true rfl), (Nat.le_of_ble_eq_true rfl)⟩ ⟨rfl, rfl⟩ hP hD hS hl.1 rfl rfl (Nat.le_of_ble_eq_true rfl) dL_law_615 ⟨by omega, by omega⟩ (fun H locs hP hD hS => ?_)
    refine W.widen (k := cells + 8) (n := slots + 48) (by omega) (by omega) ?_
    refine lv_istore (lv' := [(5, .int 1), (0, .ref b), (1, .ref (Z.ca 0)), (2, .ref (Z.ma 0)), (3, .ref Z.q), (4, .int i)]) C.hx C.hb dL_law_618 hl (by decide) rfl (fun ls hl => ?_)
    refine lv_aload_n C.hx C.hb dL_law_620 rfl (lv_at hl 3 rfl) ?_
    refine lqMi (z := nI 0) (c0 := ⟨nI T, er, nI nd, tp, fd, ee, oo, tt, rr, sw, hh, tx⟩) (m0 := ⟨v, nI T, er, th, nW g, nW a, nW u, nW sl, nW kp, nI mm, nW P0, nW L0, sn, pv, nW r0, gn, vd, nI nd, x1, x2, x3, x4, x5, x6, x7, txt, txd⟩) (m1 := ⟨v, nI T, er, nI 1, nW g, nW a, nW u, nW sl, nW kp, nI mm, nW P0, nW L0, sn, pv, nW r0, gn, vd, nI nd, x1, x2, x3, x4, x5, x6, x7, txt, txd⟩) (o := o) (As := []) (rest := []) C (c_X8_encodeTape fu l dC dI Z.kI Z.kB Z.kZ Z.ma v (nI T) er th (nW g) (nW a) (nW u) (nW sl) (nW kp) (nI mm) (nW P0) (nW L0) sn pv (nW r0) gn vd (nI nd) x1 x2 x3 x4 x5 x6 x7 txt txd H.size _ e2) gL_law_X8_encodeTape qX8_encodeTape rfl ⟨(Nat.le_of_ble_eq_true rfl), (Nat.le_of_ble_eq_true rfl)⟩ ⟨rfl, rfl⟩ hP hD hS hl.1 rfl rfl (Nat.le_of_ble_eq_true rfl) dL_law_621 ⟨by omega, by omega⟩ (fun H locs hP hD hS => ?_)
    refine lv_istore (lv' := [(6, .int (nI 0)), (5, .int 1), (0, .ref b), (1, .ref (Z.ca 0)), (2, .ref (Z.ma 0)), (3, .ref Z.q), (4, .int i)]) C.hx C.hb dL_law_624 hl (by decide) rfl (fun ls hl => ?_)
    refine lv_aload_n C.hx C.hb dL_law_626 rfl (lv_at hl 4 rfl) ?_
    refine lqMo (z := nI 1) (c0 := ⟨nI T, er, nI nd, tp, fd, ee, oo, tt, rr, sw, hh, tx⟩) (m0 := ⟨v, nI T, er, nI 1, nW g, nW a, nW u, nW sl, nW kp, nI mm, nW P0, nW L0, sn, pv, nW r0, gn, vd, nI nd, x1, x2, x3, x4, x5, x6, x7, txt, txd⟩) (o := o) (As := []) (rest := []) C (c_X8_thrown l dC dI Z.kI Z.kB Z.kZ Z.ma v (nI T) er (nI 1) (nW g) (nW a) (nW u) (nW sl) (nW kp) (nI mm) (nW P0) (nW L0) sn pv (nW r0) gn vd (nI nd) x1 x2 x3 x4 x5 x6 x7 txt txd (nI 1) rfl) gL_law_X8_thrown qX8_thrown rfl ⟨(Nat.le_of_ble_eq_true rfl), (Nat.le_of_ble_eq_true rfl)⟩ ⟨rfl, rfl⟩ hP hD hS hl.1 rfl rfl (Nat.le_of_ble_eq_true rfl) dL_law_627 ⟨by omega, by omega⟩ (fun H locs hP hD hS => ?_)
    refine lv_iload C.hx C.hb dL_law_630 (lv_at hl 1 rfl) ?_
    refine lv_icmp_eq (tgt := 637) C.hx C.hb dL_law_632 (by decide) (fun _ => ?_) (fun h9 => absurd (by first | rfl | decide) h9)
    refine lv_iload C.hx C.hb dL_law_637 (lv_at hl 1 rfl) ?_
    refine lv_if_ne (tgt := 654) C.hx C.hb dL_law_639 (by decide) (fun _ => ?_) (fun h9 => absurd h9 (by decide))
    refine lv_goto (tgt := 2318) C.hx C.hb dL_law_654 (by decide) ?_
    exact KK ⟨nI T, er, nI nd, tp, fd, ee, oo, tt, rr, sw, hh, tx⟩ ⟨v, nI T, er, nI 1, nW g, nW a, nW u, nW sl, nW kp, nI mm, nW P0, nW L0, sn, pv, nW r0, gn, vd, nI nd, x1, x2, x3, x4, x5, x6, x7, txt, txd⟩ o H locs ls ⟨T, er, nd, tp, fd, ee, oo, tt, rr, sw, hh, tx, v, nI 1, g, a, u, sl, kp, mm, P0, L0, sn, pv, r0, gn, vd, x1, x2, x3, x4, x5, x6, x7, txt, txd, bb, rfl, rfl, hTP, hDD, hST, hOF⟩ hP hD hS (lv_sub hl [2, 3, 4, 5, 6] rfl)
  · refine lv_aload_n C.hx C.hb dL_law_613 rfl (lv_at hl 1 rfl) ?_
    refine lv_aload_n C.hx C.hb dL_law_614 rfl (lv_at hl 3 rfl) ?_
    refine lqL (r := 2) (c0 := ⟨nI T, er, nI nd, tp, fd, ee, oo, tt, rr, sw, hh, tx⟩) (c1 := ⟨nI T, er, nI nd, tp, fd, ee, oo, tt, rr, sw, hh, tx⟩) (m0 := ⟨v, nI T, er, th, nW g, nW a, nW u, nW sl, nW kp, nI mm, nW P0, nW L0, sn, pv, nW r0, gn, vd, nI nd, x1, x2, x3, x4, x5, x6, x7, txt, txd⟩) (o := o) (o1 := o) (As := [.ref (Z.ca 0), .ref Z.q]) (rest := []) C (c_L_encodeTape fu l C.hl0 dC dI K Z.kI Z.kE Z.kL Z.ca Z.a Z.b Z.oa Z.ob Z.ra Z.sa Z.ha Z.ux Z.uy tx (nI T) er (nI nd) tp fd ee oo tt rr sw hh Z.q o H.size _ e1 2 o (Or.inr (Or.inr ⟨rfl, rfl, rfl⟩))) gL_law_L_encodeTape qL_encodeTape rfl ⟨(Nat.le_of_ble_eq_true rfl), (Nat.le_of_ble_eq_true rfl)⟩ ⟨rfl, rfl⟩ hP hD hS hl.1 rfl rfl (Nat.le_of_ble_eq_true rfl) dL_law_615 ⟨by omega, by omega⟩ (fun H locs hP hD hS => ?_)
    refine W.widen (k := cells + 8) (n := slots + 48) (by omega) (by omega) ?_
    refine lv_istore (lv' := [(5, .int 2), (0, .ref b), (1, .ref (Z.ca 0)), (2, .ref (Z.ma 0)), (3, .ref Z.q), (4, .int i)]) C.hx C.hb dL_law_618 hl (by decide) rfl (fun ls hl => ?_)
    refine lv_aload_n C.hx C.hb dL_law_620 rfl (lv_at hl 3 rfl) ?_
    refine lqMi (z := nI 0) (c0 := ⟨nI T, er, nI nd, tp, fd, ee, oo, tt, rr, sw, hh, tx⟩) (m0 := ⟨v, nI T, er, th, nW g, nW a, nW u, nW sl, nW kp, nI mm, nW P0, nW L0, sn, pv, nW r0, gn, vd, nI nd, x1, x2, x3, x4, x5, x6, x7, txt, txd⟩) (m1 := ⟨v, nI T, er, nI 2, nW g, nW a, nW u, nW sl, nW kp, nI mm, nW P0, nW L0, sn, pv, nW r0, gn, vd, nI nd, x1, x2, x3, x4, x5, x6, x7, txt, txd⟩) (o := o) (As := []) (rest := []) C (c_X8_encodeTape fu l dC dI Z.kI Z.kB Z.kZ Z.ma v (nI T) er th (nW g) (nW a) (nW u) (nW sl) (nW kp) (nI mm) (nW P0) (nW L0) sn pv (nW r0) gn vd (nI nd) x1 x2 x3 x4 x5 x6 x7 txt txd H.size _ e2) gL_law_X8_encodeTape qX8_encodeTape rfl ⟨(Nat.le_of_ble_eq_true rfl), (Nat.le_of_ble_eq_true rfl)⟩ ⟨rfl, rfl⟩ hP hD hS hl.1 rfl rfl (Nat.le_of_ble_eq_true rfl) dL_law_621 ⟨by omega, by omega⟩ (fun H locs hP hD hS => ?_)
    refine lv_istore (lv' := [(6, .int (nI 0)), (5, .int 2), (0, .ref b), (1, .ref (Z.ca 0)), (2, .ref (Z.ma 0)), (3, .ref Z.q), (4, .int i)]) C.hx C.hb dL_law_624 hl (by decide) rfl (fun ls hl => ?_)
    refine lv_aload_n C.hx C.hb dL_law_626 rfl (lv_at hl 4 rfl) ?_
    refine lqMo (z := nI 2) (c0 := ⟨nI T, er, nI nd, tp, fd, ee, oo, tt, rr, sw, hh, tx⟩) (m0 := ⟨v, nI T, er, nI 2, nW g, nW a, nW u, nW sl, nW kp, nI mm, nW P0, nW L0, sn, pv, nW r0, gn, vd, nI nd, x1, x2, x3, x4, x5, x6, x7, txt, txd⟩) (o := o) (As := []) (rest := []) C (c_X8_thrown l dC dI Z.kI Z.kB Z.kZ Z.ma v (nI T) er (nI 2) (nW g) (nW a) (nW u) (nW sl) (nW kp) (nI mm) (nW P0) (nW L0) sn pv (nW r0) gn vd (nI nd) x1 x2 x3 x4 x5 x6 x7 txt txd (nI 2) rfl) gL_law_X8_thrown qX8_thrown rfl ⟨(Nat.le_of_ble_eq_true rfl), (Nat.le_of_ble_eq_true rfl)⟩ ⟨rfl, rfl⟩ hP hD hS hl.1 rfl rfl (Nat.le_of_ble_eq_true rfl) dL_law_627 ⟨by omega, by omega⟩ (fun H locs hP hD hS => ?_)
    refine lv_iload C.hx C.hb dL_law_630 (lv_at hl 1 rfl) ?_
    refine lv_icmp_eq (tgt := 637) C.hx C.hb dL_law_632 (by decide) (fun _ => ?_) (fun h9 => absurd (by first | rfl | decide) h9)
    refine lv_iload C.hx C.hb dL_law_637 (lv_at hl 1 rfl) ?_
    refine lv_if_ne (tgt := 654) C.hx C.hb dL_law_639 (by decide) (fun _ => ?_) (fun h9 => absurd h9 (by decide))
    refine lv_goto (tgt := 2318) C.hx C.hb dL_law_654 (by decide) ?_
    exact KK ⟨nI T, er, nI nd, tp, fd, ee, oo, tt, rr, sw, hh, tx⟩ ⟨v, nI T, er, nI 2, nW g, nW a, nW u, nW sl, nW kp, nI mm, nW P0, nW L0, sn, pv, nW r0, gn, vd, nI nd, x1, x2, x3, x4, x5, x6, x7, txt, txd⟩ o H locs ls ⟨T, er, nd, tp, fd, ee, oo, tt, rr, sw, hh, tx, v, nI 2, g, a, u, sl, kp, mm, P0, L0, sn, pv, r0, gn, vd, x1, x2, x3, x4, x5, x6, x7, txt, txd, bb, rfl, rfl, hTP, hDD, hST, hOF⟩ hP hD hS (lv_sub hl [2, 3, 4, 5, 6] rfl)
set_option maxHeartbeats 4000000 in
set_option maxRecDepth 100000 in
theorem lc_7 (C : LC p l s m args c A0 K dC dI Z b L xs) (hf : 20000 ≤ fu) (hR : REL c0 m0) (hP : va_P (dC, dI) vwCl (LW Z c0 m0 o) H) (hD : va_D A0 (LW Z c0 m0 o)) (hS : va_S A0 s.heap H locs) (hl : lv_has ls 9 [(0, .ref b), (1, .ref (Z.ca 0)), (2, .ref (Z.ma 0)), (3, .ref Z.q), (4, .int i)])  (hcl : cells + 8 ≤ room_1.cells ∧ slots + 48 ≤ room_1.slots) (KK : LKK p l e s m args below meth c (cells + 8) (slots + 48) Q A0 dC dI Z b i) : W p l e room_1 s m args below meth c H locs cells slots Q (F0 m 657 ls []) := by
  obtain ⟨hc1, hc2⟩ := hcl
  obtain ⟨T, er, nd, tp, fd, ee, oo, tt, rr, sw, hh, tx, v, th, g, a, u, sl, kp, mm, P0, L0, sn, pv, r0, gn, vd, x1, x2, x3, x4, x5, x6, x7, txt, txd, bb, rfl, rfl, hTP, hDD, hST, hOF⟩ := hR
  have hRE := hST.1
  have hG := hST.2.1
  obtain ⟨w, ee1, hh1, g1, a1, u1, m1, e1, e2, hST⟩ := t_flush fu hf th hST a
  refine lv_aload_n C.hx C.hb dL_law_657 rfl (lv_at hl 1 rfl) ?_
  refine lqWi (z := w) (c0 := ⟨nI T, er, nI nd, tp, fd, ee, oo, tt, rr, sw, hh, tx⟩) (c1 := ⟨nI T, er, nI nd, tp, fd, ee1, oo, tt, rr, sw, hh1, tx⟩) (m0 := ⟨v, nI T, er, th, nW g, nW a, nW u, nW sl, nW kp, nI mm, nW P0, nW L0, sn, pv, nW r0, gn, vd, nI nd, x1, x2, x3, x4, x5, x6, x7, txt, txd⟩) (o := o) (As := []) (rest := []) C (c_X7_flush fu l dC dI Z.kI Z.kE Z.ca Z.a Z.b Z.oa Z.ob Z.ra Z.sa Z.ha Z.ux Z.uy tx (nI T) er (nI nd) tp fd ee oo tt rr sw hh H.size _ e1) gL_law_X7_flush qX7_flush rfl ⟨(Nat.le_of_ble_eq_true rfl), (Nat.le_of_ble_eq_true rfl)⟩ ⟨rfl, rfl⟩ hP hD hS hl.1 rfl rfl (Nat.le_of_ble_eq_true rfl) dL_law_658 ⟨by omega, by omega⟩ (fun H locs hP hD hS => ?_)
  refine lv_aload_n C.hx C.hb dL_law_661 rfl (lv_at hl 2 rfl) ?_
  refine lqMi (z := w) (c0 := ⟨nI T, er, nI nd, tp, fd, ee1, oo, tt, rr, sw, hh1, tx⟩) (m0 := ⟨v, nI T, er, th, nW g, nW a, nW u, nW sl, nW kp, nI mm, nW P0, nW L0, sn, pv, nW r0, gn, vd, nI nd, x1, x2, x3, x4, x5, x6, x7, txt, txd⟩) (m1 := ⟨v, nI T, er, nI 0, nW g1, nW a1, nW u1, nW sl, nW kp, nI m1, nW P0, nW L0, sn, pv, nW r0, gn, vd, nI nd, x1, x2, x3, x4, x5, x6, x7, txt, txd⟩) (o := o) (As := []) (rest := [.int w]) C (c_X8_flush fu l dC dI Z.kI Z.kB Z.kZ Z.ma v (nI T) er th (nW g) (nW a) (nW u) (nW sl) (nW kp) (nI mm) (nW P0) (nW L0) sn pv (nW r0) gn vd (nI nd) x1 x2 x3 x4 x5 x6 x7 txt txd H.size _ e2) gL_law_X8_flush qX8_flush rfl ⟨(Nat.le_of_ble_eq_true rfl), (Nat.le_of_ble_eq_true rfl)⟩ ⟨rfl, rfl⟩ hP hD hS hl.1 rfl rfl (Nat.le_of_ble_eq_true rfl) dL_law_662 ⟨by omega, by omega⟩ (fun H locs hP hD hS => ?_)
  refine lv_icmp_eq (tgt := 2318) C.hx C.hb dL_law_665 (by decide) (fun _ => ?_) (fun h9 => absurd (by first | rfl | decide) h9)
  refine W.widen (k := cells + 8) (n := slots + 48) (by omega) (by omega) ?_
  exact KK ⟨nI T, er, nI nd, tp, fd, ee1, oo, tt, rr, sw, hh1, tx⟩ ⟨v, nI T, er, nI 0, nW g1, nW a1, nW u1, nW sl, nW kp, nI m1, nW P0, nW L0, sn, pv, nW r0, gn, vd, nI nd, x1, x2, x3, x4, x5, x6, x7, txt, txd⟩ o H locs ls ⟨T, er, nd, tp, fd, ee1, oo, tt, rr, sw, hh1, tx, v, nI 0, g1, a1, u1, sl, kp, m1, P0, L0, sn, pv, r0, gn, vd, x1, x2, x3, x4, x5, x6, x7, txt, txd, bb, rfl, rfl, hTP, hDD, hST, hOF⟩ hP hD hS (lv_sub hl [0, 1, 2, 3, 4] rfl)
set_option maxHeartbeats 4000000 in
set_option maxRecDepth 100000 in
theorem lc_8 (C : LC p l s m args c A0 K dC dI Z b L xs) (hf : 20000 ≤ fu) (hR : REL c0 m0) (hP : va_P (dC, dI) vwCl (LW Z c0 m0 o) H) (hD : va_D A0 (LW Z c0 m0 o)) (hS : va_S A0 s.heap H locs) (hl : lv_has ls 9 [(0, .ref b), (1, .ref (Z.ca 0)), (2, .ref (Z.ma 0)), (3, .ref Z.q), (4, .int i)])  (hcl : cells + 8 ≤ room_1.cells ∧ slots + 48 ≤ room_1.slots) (KK : LKK p l e s m args below meth c (cells + 8) (slots + 48) Q A0 dC dI Z b i) : W p l e room_1 s m args below meth c H locs cells slots Q (F0 m 670 ls []) := by
  obtain ⟨hc1, hc2⟩ := hcl
  obtain ⟨T, er, nd, tp, fd, ee, oo, tt, rr, sw, hh, tx, v, th, g, a, u, sl, kp, mm, P0, L0, sn, pv, r0, gn, vd, x1, x2, x3, x4, x5, x6, x7, txt, txd, bb, rfl, rfl, hTP, hDD, hST, hOF⟩ := hR
  have hRE := hST.1
  have hG := hST.2.1
  obtain ⟨w, ee1, hh1, g1, a1, u1, m1, e1, e2, hST⟩ := t_restart fu hf th hST a
  refine lv_aload_n C.hx C.hb dL_law_670 rfl (lv_at hl 1 rfl) ?_
  refine lqWi (z := w) (c0 := ⟨nI T, er, nI nd, tp, fd, ee, oo, tt, rr, sw, hh, tx⟩) (c1 := ⟨nI T, er, nI nd, tp, fd, ee1, oo, tt, rr, sw, hh1, tx⟩) (m0 := ⟨v, nI T, er, th, nW g, nW a, nW u, nW sl, nW kp, nI mm, nW P0, nW L0, sn, pv, nW r0, gn, vd, nI nd, x1, x2, x3, x4, x5, x6, x7, txt, txd⟩) (o := o) (As := []) (rest := []) C (c_X7_restart fu l dC dI Z.kI Z.kE Z.ca Z.a Z.b Z.oa Z.ob Z.ra Z.sa Z.ha Z.ux Z.uy tx (nI T) er (nI nd) tp fd ee oo tt rr sw hh H.size _ e1) gL_law_X7_restart qX7_restart rfl ⟨(Nat.le_of_ble_eq_true rfl), (Nat.le_of_ble_eq_true rfl)⟩ ⟨rfl, rfl⟩ hP hD hS hl.1 rfl rfl (Nat.le_of_ble_eq_true rfl) dL_law_671 ⟨by omega, by omega⟩ (fun H locs hP hD hS => ?_)
  refine lv_aload_n C.hx C.hb dL_law_674 rfl (lv_at hl 2 rfl) ?_
  refine lqMi (z := w) (c0 := ⟨nI T, er, nI nd, tp, fd, ee1, oo, tt, rr, sw, hh1, tx⟩) (m0 := ⟨v, nI T, er, th, nW g, nW a, nW u, nW sl, nW kp, nI mm, nW P0, nW L0, sn, pv, nW r0, gn, vd, nI nd, x1, x2, x3, x4, x5, x6, x7, txt, txd⟩) (m1 := ⟨v, nI T, er, nI 0, nW g1, nW a1, nW u1, nW sl, nW kp, nI m1, nW P0, nW L0, sn, pv, nW r0, gn, vd, nI nd, x1, x2, x3, x4, x5, x6, x7, txt, txd⟩) (o := o) (As := []) (rest := [.int w]) C (c_X8_restart fu l dC dI Z.kI Z.kB Z.kZ Z.ma v (nI T) er th (nW g) (nW a) (nW u) (nW sl) (nW kp) (nI mm) (nW P0) (nW L0) sn pv (nW r0) gn vd (nI nd) x1 x2 x3 x4 x5 x6 x7 txt txd H.size _ e2) gL_law_X8_restart qX8_restart rfl ⟨(Nat.le_of_ble_eq_true rfl), (Nat.le_of_ble_eq_true rfl)⟩ ⟨rfl, rfl⟩ hP hD hS hl.1 rfl rfl (Nat.le_of_ble_eq_true rfl) dL_law_675 ⟨by omega, by omega⟩ (fun H locs hP hD hS => ?_)
  refine lv_icmp_eq (tgt := 2318) C.hx C.hb dL_law_678 (by decide) (fun _ => ?_) (fun h9 => absurd (by first | rfl | decide) h9)
  refine W.widen (k := cells + 8) (n := slots + 48) (by omega) (by omega) ?_
  exact KK ⟨nI T, er, nI nd, tp, fd, ee1, oo, tt, rr, sw, hh1, tx⟩ ⟨v, nI T, er, nI 0, nW g1, nW a1, nW u1, nW sl, nW kp, nI m1, nW P0, nW L0, sn, pv, nW r0, gn, vd, nI nd, x1, x2, x3, x4, x5, x6, x7, txt, txd⟩ o H locs ls ⟨T, er, nd, tp, fd, ee1, oo, tt, rr, sw, hh1, tx, v, nI 0, g1, a1, u1, sl, kp, m1, P0, L0, sn, pv, r0, gn, vd, x1, x2, x3, x4, x5, x6, x7, txt, txd, bb, rfl, rfl, hTP, hDD, hST, hOF⟩ hP hD hS (lv_sub hl [0, 1, 2, 3, 4] rfl)
set_option maxHeartbeats 4000000 in
set_option maxRecDepth 100000 in
theorem lc_9 (C : LC p l s m args c A0 K dC dI Z b L xs) (hf : 20000 ≤ fu) (hR : REL c0 m0) (hP : va_P (dC, dI) vwCl (LW Z c0 m0 o) H) (hD : va_D A0 (LW Z c0 m0 o)) (hS : va_S A0 s.heap H locs) (hl : lv_has ls 9 [(0, .ref b), (1, .ref (Z.ca 0)), (2, .ref (Z.ma 0)), (3, .ref Z.q), (4, .int i)]) (hi1 : vp_in (i + 1) L) (hcl : cells + 8 ≤ room_1.cells ∧ slots + 48 ≤ room_1.slots) (KK : LKK p l e s m args below meth c (cells + 8) (slots + 48) Q A0 dC dI Z b i) : W p l e room_1 s m args below meth c H locs cells slots Q (F0 m 683 ls []) := by
  obtain ⟨hc1, hc2⟩ := hcl
  obtain ⟨T, er, nd, tp, fd, ee, oo, tt, rr, sw, hh, tx, v, th, g, a, u, sl, kp, mm, P0, L0, sn, pv, r0, gn, vd, x1, x2, x3, x4, x5, x6, x7, txt, txd, bb, rfl, rfl, hTP, hDD, hST, hOF⟩ := hR
  have hRE := hST.1
  have hG := hST.2.1
  rcases t_setPolicy fu hf th hST a (xs (i + 1).toNatClampNeg) with ⟨w, ee1, hh1, g1, a1, u1, m1, e1, e2, hST⟩ | ⟨e1, e2⟩
  · refine lv_aload_n C.hx C.hb dL_law_683 rfl (lv_at hl 1 rfl) ?_
    refine lv_aload_n C.hx C.hb dL_law_684 rfl (lv_at hl 0 rfl) ?_
    refine lv_iload C.hx C.hb dL_law_685 (lv_at hl 4 rfl) ?_
    refine lv_iconst (v := 1) C.hx C.hb dL_law_687 (by decide) ?_
    refine lv_iadd C.hx C.hb dL_law_688 ?_
    refine lq_x C hS hi1 dL_law_689 ?_
    refine lv_aload_n C.hx C.hb dL_law_690 rfl (lv_at hl 3 rfl) ?_
    refine lqL (r := 0) (c0 := ⟨nI T, er, nI nd, tp, fd, ee, oo, tt, rr, sw, hh, tx⟩) (c1 := ⟨nI T, er, nI nd, tp, fd, ee1, oo, tt, rr, sw, hh1, tx⟩) (m0 := ⟨v, nI T, er, th, nW g, nW a, nW u, nW sl, nW kp, nI mm, nW P0, nW L0, sn, pv, nW r0, gn, vd, nI nd, x1, x2, x3, x4, x5, x6, x7, txt, txd⟩) (o := o) (o1 := (vp_updL o 0 w.toInt64)) (As := [.ref (Z.ca 0), .int (xs (i + 1).toNatClampNeg), .ref Z.q]) (rest := []) C (c_L_setPolicy l C.hl0 dC dI K Z.kI Z.kE Z.kL Z.ca Z.a Z.b Z.oa Z.ob Z.ra Z.sa Z.ha Z.ux Z.uy tx (nI T) er (nI nd) tp fd ee oo tt rr sw hh (xs (i + 1).toNatClampNeg) Z.q o H.size _ e1 0 (vp_updL o 0 w.toInt64) (Or.inl ⟨w, rfl, rfl, rfl⟩)) gL_law_L_setPolicy qL_setPolicy rfl ⟨(Nat.le_of_ble_eq_true rfl), (Nat.le_of_ble_eq_true rfl)⟩ ⟨rfl, rfl⟩ hP hD hS hl.1 rfl rfl (Nat.le_of_ble_eq_true rfl) dL_law_691 ⟨by omega, by omega⟩ (fun H locs hP hD hS => ?_)
    refine W.widen (k := cells + 8) (n := slots + 48) (by omega) (by omega) ?_
    refine lv_istore (lv' := [(5, .int 0), (0, .ref b), (1, .ref (Z.ca 0)), (2, .ref (Z.ma 0)), (3, .ref Z.q), (4, .int i)]) C.hx C.hb dL_law_694 hl (by decide) rfl (fun ls hl => ?_)
    refine lv_aload_n C.hx C.hb dL_law_696 rfl (lv_at hl 3 rfl) ?_
    refine lv_aload_n C.hx C.hb dL_law_697 rfl (lv_at hl 1 rfl) ?_
    refine lv_iload C.hx C.hb dL_law_698 (lv_at hl 5 rfl) ?_
    refine lv_iconst (v := 1) C.hx C.hb dL_law_700 (by decide) ?_
    refine lv_iadd C.hx C.hb dL_law_701 ?_
    refine lq_x C hS hi1 dL_law_702 ?_
    refine lqMi (z := w) (c0 := ⟨nI T, er, nI nd, tp, fd, ee1, oo, tt, rr, sw, hh1, tx⟩) (m0 := ⟨v, nI T, er, th, nW g, nW a, nW u, nW sl, nW kp, nI mm, nW P0, nW L0, sn, pv, nW r0, gn, vd, nI nd, x1, x2, x3, x4, x5, x6, x7, txt, txd⟩) (m1 := ⟨v, nI T, er, nI 0, nW g1, nW a1, nW u1, nW sl, nW kp, nI m1, nW P0, nW L0, sn, pv, nW r0, gn, vd, nI nd, x1, x2, x3, x4, x5, x6, x7, txt, txd⟩) (o := (vp_updL o 0 w.toInt64)) (As := [.int (xs (i + 1).toNatClampNeg)]) (rest := []) C (c_X8_setPolicy fu l dC dI Z.kI Z.kB Z.kZ Z.ma v (nI T) er th (nW g) (nW a) (nW u) (nW sl) (nW kp) (nI mm) (nW P0) (nW L0) sn pv (nW r0) gn vd (nI nd) x1 x2 x3 x4 x5 x6 x7 txt txd (xs (i + 1).toNatClampNeg) H.size _ e2) gL_law_X8_setPolicy qX8_setPolicy rfl ⟨(Nat.le_of_ble_eq_true rfl), (Nat.le_of_ble_eq_true rfl)⟩ ⟨rfl, rfl⟩ hP hD hS hl.1 rfl rfl (Nat.le_of_ble_eq_true rfl) dL_law_703 ⟨by omega, by omega⟩ (fun H locs hP hD hS => ?_)
    refine lv_istore (lv' := [(6, .int w), (5, .int 0), (0, .ref b), (1, .ref (Z.ca 0)), (2, .ref (Z.ma 0)), (3, .ref Z.q), (4, .int i)]) C.hx C.hb dL_law_706 hl (by decide) rfl (fun ls hl => ?_)
    refine lv_aload_n C.hx C.hb dL_law_708 rfl (lv_at hl 4 rfl) ?_
    refine lqMo (z := nI 0) (c0 := ⟨nI T, er, nI nd, tp, fd, ee1, oo, tt, rr, sw, hh1, tx⟩) (m0 := ⟨v, nI T, er, nI 0, nW g1, nW a1, nW u1, nW sl, nW kp, nI m1, nW P0, nW L0, sn, pv, nW r0, gn, vd, nI nd, x1, x2, x3, x4, x5, x6, x7, txt, txd⟩) (o := (vp_updL o 0 w.toInt64)) (As := []) (rest := []) C (c_X8_thrown l dC dI Z.kI Z.kB Z.kZ Z.ma v (nI T) er (nI 0) (nW g1) (nW a1) (nW u1) (nW sl) (nW kp) (nI m1) (nW P0) (nW L0) sn pv (nW r0) gn vd (nI nd) x1 x2 x3 x4 x5 x6 x7 txt txd (nI 0) rfl) gL_law_X8_thrown qX8_thrown rfl ⟨(Nat.le_of_ble_eq_true rfl), (Nat.le_of_ble_eq_true rfl)⟩ ⟨rfl, rfl⟩ hP hD hS hl.1 rfl rfl (Nat.le_of_ble_eq_true rfl) dL_law_709 ⟨by omega, by omega⟩ (fun H locs hP hD hS => ?_)
    refine lv_iload C.hx C.hb dL_law_712 (lv_at hl 1 rfl) ?_
    refine lv_icmp_eq (tgt := 719) C.hx C.hb dL_law_714 (by decide) (fun _ => ?_) (fun h9 => absurd (by first | rfl | decide) h9)
    refine lv_iload C.hx C.hb dL_law_719 (lv_at hl 1 rfl) ?_
    refine lv_if_ne (tgt := 736) C.hx C.hb dL_law_721 (by decide) (fun h9 => absurd rfl h9) (fun _ => ?_)
    refine lv_aload_n C.hx C.hb dL_law_724 rfl (lv_at hl 5 rfl) ?_
    refine lv_iconst (v := 0) C.hx C.hb dL_law_725 (by decide) ?_
    refine lq_o C hP dL_law_726 ?_
    refine lv_iload C.hx C.hb dL_law_727 (lv_at hl 0 rfl) ?_
    refine lv_i2l (v := w.toInt64) C.hx C.hb dL_law_729 rfl ?_
    refine W.lcmp C.hx C.hb dL_law_730 ?_
    refine lv_if_eq (tgt := 736) C.hx C.hb dL_law_731 (by decide) (fun _ => ?_) (fun h9 => absurd (cmp_self _) h9)
    refine lv_goto (tgt := 2318) C.hx C.hb dL_law_736 (by decide) ?_
    exact KK ⟨nI T, er, nI nd, tp, fd, ee1, oo, tt, rr, sw, hh1, tx⟩ ⟨v, nI T, er, nI 0, nW g1, nW a1, nW u1, nW sl, nW kp, nI m1, nW P0, nW L0, sn, pv, nW r0, gn, vd, nI nd, x1, x2, x3, x4, x5, x6, x7, txt, txd⟩ (vp_updL o 0 w.toInt64) H locs ls ⟨T, er, nd, tp, fd, ee1, oo, tt, rr, sw, hh1, tx, v, nI 0, g1, a1, u1, sl, kp, m1, P0, L0, sn, pv, r0, gn, vd, x1, x2, x3, x4, x5, x6, x7, txt, txd, bb, rfl, rfl, hTP, hDD, hST, hOF⟩ hP hD hS (lv_sub hl [2, 3, 4, 5, 6] rfl)
  · refine lv_aload_n C.hx C.hb dL_law_683 rfl (lv_at hl 1 rfl) ?_
    refine lv_aload_n C.hx C.hb dL_law_684 rfl (lv_at hl 0 rfl) ?_
    refine lv_iload C.hx C.hb dL_law_685 (lv_at hl 4 rfl) ?_
    refine lv_iconst (v := 1) C.hx C.hb dL_law_687 (by decide) ?_
    refine lv_iadd C.hx C.hb dL_law_688 ?_
    refine lq_x C hS hi1 dL_law_689 ?_
    refine lv_aload_n C.hx C.hb dL_law_690 rfl (lv_at hl 3 rfl) ?_
    refine lqL (r := 1) (c0 := ⟨nI T, er, nI nd, tp, fd, ee, oo, tt, rr, sw, hh, tx⟩) (c1 := ⟨nI T, er, nI nd, tp, fd, ee, oo, tt, rr, sw, hh, tx⟩) (m0 := ⟨v, nI T, er, th, nW g, nW a, nW u, nW sl, nW kp, nI mm, nW P0, nW L0, sn, pv, nW r0, gn, vd, nI nd, x1, x2, x3, x4, x5, x6, x7, txt, txd⟩) (o := o) (o1 := o) (As := [.ref (Z.ca 0), .int (xs (i + 1).toNatClampNeg), .ref Z.q]) (rest := []) C (c_L_setPolicy l C.hl0 dC dI K Z.kI Z.kE Z.kL Z.ca Z.a Z.b Z.oa Z.ob Z.ra Z.sa Z.ha Z.ux Z.uy tx (nI T) er (nI nd) tp fd ee oo tt rr sw hh (xs (i + 1).toNatClampNeg) Z.q o H.size _ e1 1 o (Or.inr ⟨rfl, rfl, rfl⟩)) gL_law_L_setPolicy qL_setPolicy rfl ⟨(Nat.le_of_ble_eq_true rfl), (Nat.le_of_ble_eq_true rfl)⟩ ⟨rfl, rfl⟩ hP hD hS hl.1 rfl rfl (Nat.le_of_ble_eq_true rfl) dL_law_691 ⟨by omega, by omega⟩ (fun H locs hP hD hS => ?_)
    refine W.widen (k := cells + 8) (n := slots + 48) (by omega) (by omega) ?_
    refine lv_istore (lv' := [(5, .int 1), (0, .ref b), (1, .ref (Z.ca 0)), (2, .ref (Z.ma 0)), (3, .ref Z.q), (4, .int i)]) C.hx C.hb dL_law_694 hl (by decide) rfl (fun ls hl => ?_)
    refine lv_aload_n C.hx C.hb dL_law_696 rfl (lv_at hl 3 rfl) ?_
    refine lv_aload_n C.hx C.hb dL_law_697 rfl (lv_at hl 1 rfl) ?_
    refine lv_iload C.hx C.hb dL_law_698 (lv_at hl 5 rfl) ?_
    refine lv_iconst (v := 1) C.hx C.hb dL_law_700 (by decide) ?_
    refine lv_iadd C.hx C.hb dL_law_701 ?_
    refine lq_x C hS hi1 dL_law_702 ?_
    refine lqMi (z := nI 0) (c0 := ⟨nI T, er, nI nd, tp, fd, ee, oo, tt, rr, sw, hh, tx⟩) (m0 := ⟨v, nI T, er, th, nW g, nW a, nW u, nW sl, nW kp, nI mm, nW P0, nW L0, sn, pv, nW r0, gn, vd, nI nd, x1, x2, x3, x4, x5, x6, x7, txt, txd⟩) (m1 := ⟨v, nI T, er, nI 1, nW g, nW a, nW u, nW sl, nW kp, nI mm, nW P0, nW L0, sn, pv, nW r0, gn, vd, nI nd, x1, x2, x3, x4, x5, x6, x7, txt, txd⟩) (o := o) (As := [.int (xs (i + 1).toNatClampNeg)]) (rest := []) C (c_X8_setPolicy fu l dC dI Z.kI Z.kB Z.kZ Z.ma v (nI T) er th (nW g) (nW a) (nW u) (nW sl) (nW kp) (nI mm) (nW P0) (nW L0) sn pv (nW r0) gn vd (nI nd) x1 x2 x3 x4 x5 x6 x7 txt txd (xs (i + 1).toNatClampNeg) H.size _ e2) gL_law_X8_setPolicy qX8_setPolicy rfl ⟨(Nat.le_of_ble_eq_true rfl), (Nat.le_of_ble_eq_true rfl)⟩ ⟨rfl, rfl⟩ hP hD hS hl.1 rfl rfl (Nat.le_of_ble_eq_true rfl) dL_law_703 ⟨by omega, by omega⟩ (fun H locs hP hD hS => ?_)
    refine lv_istore (lv' := [(6, .int (nI 0)), (5, .int 1), (0, .ref b), (1, .ref (Z.ca 0)), (2, .ref (Z.ma 0)), (3, .ref Z.q), (4, .int i)]) C.hx C.hb dL_law_706 hl (by decide) rfl (fun ls hl => ?_)
    refine lv_aload_n C.hx C.hb dL_law_708 rfl (lv_at hl 4 rfl) ?_
    refine lqMo (z := nI 1) (c0 := ⟨nI T, er, nI nd, tp, fd, ee, oo, tt, rr, sw, hh, tx⟩) (m0 := ⟨v, nI T, er, nI 1, nW g, nW a, nW u, nW sl, nW kp, nI mm, nW P0, nW L0, sn, pv, nW r0, gn, vd, nI nd, x1, x2, x3, x4, x5, x6, x7, txt, txd⟩) (o := o) (As := []) (rest := []) C (c_X8_thrown l dC dI Z.kI Z.kB Z.kZ Z.ma v (nI T) er (nI 1) (nW g) (nW a) (nW u) (nW sl) (nW kp) (nI mm) (nW P0) (nW L0) sn pv (nW r0) gn vd (nI nd) x1 x2 x3 x4 x5 x6 x7 txt txd (nI 1) rfl) gL_law_X8_thrown qX8_thrown rfl ⟨(Nat.le_of_ble_eq_true rfl), (Nat.le_of_ble_eq_true rfl)⟩ ⟨rfl, rfl⟩ hP hD hS hl.1 rfl rfl (Nat.le_of_ble_eq_true rfl) dL_law_709 ⟨by omega, by omega⟩ (fun H locs hP hD hS => ?_)
    refine lv_iload C.hx C.hb dL_law_712 (lv_at hl 1 rfl) ?_
    refine lv_icmp_eq (tgt := 719) C.hx C.hb dL_law_714 (by decide) (fun _ => ?_) (fun h9 => absurd (by first | rfl | decide) h9)
    refine lv_iload C.hx C.hb dL_law_719 (lv_at hl 1 rfl) ?_
    refine lv_if_ne (tgt := 736) C.hx C.hb dL_law_721 (by decide) (fun _ => ?_) (fun h9 => absurd h9 (by decide))
    refine lv_goto (tgt := 2318) C.hx C.hb dL_law_736 (by decide) ?_
    exact KK ⟨nI T, er, nI nd, tp, fd, ee, oo, tt, rr, sw, hh, tx⟩ ⟨v, nI T, er, nI 1, nW g, nW a, nW u, nW sl, nW kp, nI mm, nW P0, nW L0, sn, pv, nW r0, gn, vd, nI nd, x1, x2, x3, x4, x5, x6, x7, txt, txd⟩ o H locs ls ⟨T, er, nd, tp, fd, ee, oo, tt, rr, sw, hh, tx, v, nI 1, g, a, u, sl, kp, mm, P0, L0, sn, pv, r0, gn, vd, x1, x2, x3, x4, x5, x6, x7, txt, txd, bb, rfl, rfl, hTP, hDD, hST, hOF⟩ hP hD hS (lv_sub hl [2, 3, 4, 5, 6] rfl)
set_option maxHeartbeats 4000000 in
set_option maxRecDepth 100000 in
theorem lc_10 (C : LC p l s m args c A0 K dC dI Z b L xs) (hf : 20000 ≤ fu) (hR : REL c0 m0) (hP : va_P (dC, dI) vwCl (LW Z c0 m0 o) H) (hD : va_D A0 (LW Z c0 m0 o)) (hS : va_S A0 s.heap H locs) (hl : lv_has ls 9 [(0, .ref b), (1, .ref (Z.ca 0)), (2, .ref (Z.ma 0)), (3, .ref Z.q), (4, .int i)]) (hi1 : vp_in (i + 1) L) (hcl : cells + 8 ≤ room_1.cells ∧ slots + 48 ≤ room_1.slots) (KK : LKK p l e s m args below meth c (cells + 8) (slots + 48) Q A0 dC dI Z b i) : W p l e room_1 s m args below meth c H locs cells slots Q (F0 m 739 ls []) := by
  obtain ⟨hc1, hc2⟩ := hcl
  obtain ⟨T, er, nd, tp, fd, ee, oo, tt, rr, sw, hh, tx, v, th, g, a, u, sl, kp, mm, P0, L0, sn, pv, r0, gn, vd, x1, x2, x3, x4, x5, x6, x7, txt, txd, bb, rfl, rfl, hTP, hDD, hST, hOF⟩ := hR
  have hRE := hST.1
  have hG := hST.2.1
  rcases t_setLimit fu hf th hST a (xs (i + 1).toNatClampNeg) with ⟨w, ee1, hh1, g1, a1, u1, m1, e1, e2, hST⟩ | ⟨e1, e2⟩
  · refine lv_aload_n C.hx C.hb dL_law_739 rfl (lv_at hl 1 rfl) ?_
    refine lv_aload_n C.hx C.hb dL_law_740 rfl (lv_at hl 0 rfl) ?_
    refine lv_iload C.hx C.hb dL_law_741 (lv_at hl 4 rfl) ?_
    refine lv_iconst (v := 1) C.hx C.hb dL_law_743 (by decide) ?_
    refine lv_iadd C.hx C.hb dL_law_744 ?_
    refine lq_x C hS hi1 dL_law_745 ?_
    refine lv_aload_n C.hx C.hb dL_law_746 rfl (lv_at hl 3 rfl) ?_
    refine lqL (r := 0) (c0 := ⟨nI T, er, nI nd, tp, fd, ee, oo, tt, rr, sw, hh, tx⟩) (c1 := ⟨nI T, er, nI nd, tp, fd, ee1, oo, tt, rr, sw, hh1, tx⟩) (m0 := ⟨v, nI T, er, th, nW g, nW a, nW u, nW sl, nW kp, nI mm, nW P0, nW L0, sn, pv, nW r0, gn, vd, nI nd, x1, x2, x3, x4, x5, x6, x7, txt, txd⟩) (o := o) (o1 := (vp_updL o 0 w.toInt64)) (As := [.ref (Z.ca 0), .int (xs (i + 1).toNatClampNeg), .ref Z.q]) (rest := []) C (c_L_setLimit l C.hl0 dC dI K Z.kI Z.kE Z.kL Z.ca Z.a Z.b Z.oa Z.ob Z.ra Z.sa Z.ha Z.ux Z.uy tx (nI T) er (nI nd) tp fd ee oo tt rr sw hh (xs (i + 1).toNatClampNeg) Z.q o H.size _ e1 0 (vp_updL o 0 w.toInt64) (Or.inl ⟨w, rfl, rfl, rfl⟩)) gL_law_L_setLimit qL_setLimit rfl ⟨(Nat.le_of_ble_eq_true rfl), (Nat.le_of_ble_eq_true rfl)⟩ ⟨rfl, rfl⟩ hP hD hS hl.1 rfl rfl (Nat.le_of_ble_eq_true rfl) dL_law_747 ⟨by omega, by omega⟩ (fun H locs hP hD hS => ?_)
    refine W.widen (k := cells + 8) (n := slots + 48) (by omega) (by omega) ?_
    refine lv_istore (lv' := [(5, .int 0), (0, .ref b), (1, .ref (Z.ca 0)), (2, .ref (Z.ma 0)), (3, .ref Z.q), (4, .int i)]) C.hx C.hb dL_law_750 hl (by decide) rfl (fun ls hl => ?_)
    refine lv_aload_n C.hx C.hb dL_law_752 rfl (lv_at hl 3 rfl) ?_
    refine lv_aload_n C.hx C.hb dL_law_753 rfl (lv_at hl 1 rfl) ?_
    refine lv_iload C.hx C.hb dL_law_754 (lv_at hl 5 rfl) ?_
    refine lv_iconst (v := 1) C.hx C.hb dL_law_756 (by decide) ?_
    refine lv_iadd C.hx C.hb dL_law_757 ?_
    refine lq_x C hS hi1 dL_law_758 ?_
    refine lqMi (z := w) (c0 := ⟨nI T, er, nI nd, tp, fd, ee1, oo, tt, rr, sw, hh1, tx⟩) (m0 := ⟨v, nI T, er, th, nW g, nW a, nW u, nW sl, nW kp, nI mm, nW P0, nW L0, sn, pv, nW r0, gn, vd, nI nd, x1, x2, x3, x4, x5, x6, x7, txt, txd⟩) (m1 := ⟨v, nI T, er, nI 0, nW g1, nW a1, nW u1, nW sl, nW kp, nI m1, nW P0, nW L0, sn, pv, nW r0, gn, vd, nI nd, x1, x2, x3, x4, x5, x6, x7, txt, txd⟩) (o := (vp_updL o 0 w.toInt64)) (As := [.int (xs (i + 1).toNatClampNeg)]) (rest := []) C (c_X8_setLimit fu l dC dI Z.kI Z.kB Z.kZ Z.ma v (nI T) er th (nW g) (nW a) (nW u) (nW sl) (nW kp) (nI mm) (nW P0) (nW L0) sn pv (nW r0) gn vd (nI nd) x1 x2 x3 x4 x5 x6 x7 txt txd (xs (i + 1).toNatClampNeg) H.size _ e2) gL_law_X8_setLimit qX8_setLimit rfl ⟨(Nat.le_of_ble_eq_true rfl), (Nat.le_of_ble_eq_true rfl)⟩ ⟨rfl, rfl⟩ hP hD hS hl.1 rfl rfl (Nat.le_of_ble_eq_true rfl) dL_law_759 ⟨by omega, by omega⟩ (fun H locs hP hD hS => ?_)
    refine lv_istore (lv' := [(6, .int w), (5, .int 0), (0, .ref b), (1, .ref (Z.ca 0)), (2, .ref (Z.ma 0)), (3, .ref Z.q), (4, .int i)]) C.hx C.hb dL_law_762 hl (by decide) rfl (fun ls hl => ?_)
    refine lv_aload_n C.hx C.hb dL_law_764 rfl (lv_at hl 4 rfl) ?_
    refine lqMo (z := nI 0) (c0 := ⟨nI T, er, nI nd, tp, fd, ee1, oo, tt, rr, sw, hh1, tx⟩) (m0 := ⟨v, nI T, er, nI 0, nW g1, nW a1, nW u1, nW sl, nW kp, nI m1, nW P0, nW L0, sn, pv, nW r0, gn, vd, nI nd, x1, x2, x3, x4, x5, x6, x7, txt, txd⟩) (o := (vp_updL o 0 w.toInt64)) (As := []) (rest := []) C (c_X8_thrown l dC dI Z.kI Z.kB Z.kZ Z.ma v (nI T) er (nI 0) (nW g1) (nW a1) (nW u1) (nW sl) (nW kp) (nI m1) (nW P0) (nW L0) sn pv (nW r0) gn vd (nI nd) x1 x2 x3 x4 x5 x6 x7 txt txd (nI 0) rfl) gL_law_X8_thrown qX8_thrown rfl ⟨(Nat.le_of_ble_eq_true rfl), (Nat.le_of_ble_eq_true rfl)⟩ ⟨rfl, rfl⟩ hP hD hS hl.1 rfl rfl (Nat.le_of_ble_eq_true rfl) dL_law_765 ⟨by omega, by omega⟩ (fun H locs hP hD hS => ?_)
    refine lv_iload C.hx C.hb dL_law_768 (lv_at hl 1 rfl) ?_
    refine lv_icmp_eq (tgt := 775) C.hx C.hb dL_law_770 (by decide) (fun _ => ?_) (fun h9 => absurd (by first | rfl | decide) h9)
    refine lv_iload C.hx C.hb dL_law_775 (lv_at hl 1 rfl) ?_
    refine lv_if_ne (tgt := 792) C.hx C.hb dL_law_777 (by decide) (fun h9 => absurd rfl h9) (fun _ => ?_)
    refine lv_aload_n C.hx C.hb dL_law_780 rfl (lv_at hl 5 rfl) ?_
    refine lv_iconst (v := 0) C.hx C.hb dL_law_781 (by decide) ?_
    refine lq_o C hP dL_law_782 ?_
    refine lv_iload C.hx C.hb dL_law_783 (lv_at hl 0 rfl) ?_
    refine lv_i2l (v := w.toInt64) C.hx C.hb dL_law_785 rfl ?_
    refine W.lcmp C.hx C.hb dL_law_786 ?_
    refine lv_if_eq (tgt := 792) C.hx C.hb dL_law_787 (by decide) (fun _ => ?_) (fun h9 => absurd (cmp_self _) h9)
    refine lv_goto (tgt := 2318) C.hx C.hb dL_law_792 (by decide) ?_
    exact KK ⟨nI T, er, nI nd, tp, fd, ee1, oo, tt, rr, sw, hh1, tx⟩ ⟨v, nI T, er, nI 0, nW g1, nW a1, nW u1, nW sl, nW kp, nI m1, nW P0, nW L0, sn, pv, nW r0, gn, vd, nI nd, x1, x2, x3, x4, x5, x6, x7, txt, txd⟩ (vp_updL o 0 w.toInt64) H locs ls ⟨T, er, nd, tp, fd, ee1, oo, tt, rr, sw, hh1, tx, v, nI 0, g1, a1, u1, sl, kp, m1, P0, L0, sn, pv, r0, gn, vd, x1, x2, x3, x4, x5, x6, x7, txt, txd, bb, rfl, rfl, hTP, hDD, hST, hOF⟩ hP hD hS (lv_sub hl [2, 3, 4, 5, 6] rfl)
  · refine lv_aload_n C.hx C.hb dL_law_739 rfl (lv_at hl 1 rfl) ?_
    refine lv_aload_n C.hx C.hb dL_law_740 rfl (lv_at hl 0 rfl) ?_
    refine lv_iload C.hx C.hb dL_law_741 (lv_at hl 4 rfl) ?_
    refine lv_iconst (v := 1) C.hx C.hb dL_law_743 (by decide) ?_
    refine lv_iadd C.hx C.hb dL_law_744 ?_
    refine lq_x C hS hi1 dL_law_745 ?_
    refine lv_aload_n C.hx C.hb dL_law_746 rfl (lv_at hl 3 rfl) ?_
    refine lqL (r := 1) (c0 := ⟨nI T, er, nI nd, tp, fd, ee, oo, tt, rr, sw, hh, tx⟩) (c1 := ⟨nI T, er, nI nd, tp, fd, ee, oo, tt, rr, sw, hh, tx⟩) (m0 := ⟨v, nI T, er, th, nW g, nW a, nW u, nW sl, nW kp, nI mm, nW P0, nW L0, sn, pv, nW r0, gn, vd, nI nd, x1, x2, x3, x4, x5, x6, x7, txt, txd⟩) (o := o) (o1 := o) (As := [.ref (Z.ca 0), .int (xs (i + 1).toNatClampNeg), .ref Z.q]) (rest := []) C (c_L_setLimit l C.hl0 dC dI K Z.kI Z.kE Z.kL Z.ca Z.a Z.b Z.oa Z.ob Z.ra Z.sa Z.ha Z.ux Z.uy tx (nI T) er (nI nd) tp fd ee oo tt rr sw hh (xs (i + 1).toNatClampNeg) Z.q o H.size _ e1 1 o (Or.inr ⟨rfl, rfl, rfl⟩)) gL_law_L_setLimit qL_setLimit rfl ⟨(Nat.le_of_ble_eq_true rfl), (Nat.le_of_ble_eq_true rfl)⟩ ⟨rfl, rfl⟩ hP hD hS hl.1 rfl rfl (Nat.le_of_ble_eq_true rfl) dL_law_747 ⟨by omega, by omega⟩ (fun H locs hP hD hS => ?_)
    refine W.widen (k := cells + 8) (n := slots + 48) (by omega) (by omega) ?_
    refine lv_istore (lv' := [(5, .int 1), (0, .ref b), (1, .ref (Z.ca 0)), (2, .ref (Z.ma 0)), (3, .ref Z.q), (4, .int i)]) C.hx C.hb dL_law_750 hl (by decide) rfl (fun ls hl => ?_)
    refine lv_aload_n C.hx C.hb dL_law_752 rfl (lv_at hl 3 rfl) ?_
    refine lv_aload_n C.hx C.hb dL_law_753 rfl (lv_at hl 1 rfl) ?_
    refine lv_iload C.hx C.hb dL_law_754 (lv_at hl 5 rfl) ?_
    refine lv_iconst (v := 1) C.hx C.hb dL_law_756 (by decide) ?_
    refine lv_iadd C.hx C.hb dL_law_757 ?_
    refine lq_x C hS hi1 dL_law_758 ?_
    refine lqMi (z := nI 0) (c0 := ⟨nI T, er, nI nd, tp, fd, ee, oo, tt, rr, sw, hh, tx⟩) (m0 := ⟨v, nI T, er, th, nW g, nW a, nW u, nW sl, nW kp, nI mm, nW P0, nW L0, sn, pv, nW r0, gn, vd, nI nd, x1, x2, x3, x4, x5, x6, x7, txt, txd⟩) (m1 := ⟨v, nI T, er, nI 1, nW g, nW a, nW u, nW sl, nW kp, nI mm, nW P0, nW L0, sn, pv, nW r0, gn, vd, nI nd, x1, x2, x3, x4, x5, x6, x7, txt, txd⟩) (o := o) (As := [.int (xs (i + 1).toNatClampNeg)]) (rest := []) C (c_X8_setLimit fu l dC dI Z.kI Z.kB Z.kZ Z.ma v (nI T) er th (nW g) (nW a) (nW u) (nW sl) (nW kp) (nI mm) (nW P0) (nW L0) sn pv (nW r0) gn vd (nI nd) x1 x2 x3 x4 x5 x6 x7 txt txd (xs (i + 1).toNatClampNeg) H.size _ e2) gL_law_X8_setLimit qX8_setLimit rfl ⟨(Nat.le_of_ble_eq_true rfl), (Nat.le_of_ble_eq_true rfl)⟩ ⟨rfl, rfl⟩ hP hD hS hl.1 rfl rfl (Nat.le_of_ble_eq_true rfl) dL_law_759 ⟨by omega, by omega⟩ (fun H locs hP hD hS => ?_)
    refine lv_istore (lv' := [(6, .int (nI 0)), (5, .int 1), (0, .ref b), (1, .ref (Z.ca 0)), (2, .ref (Z.ma 0)), (3, .ref Z.q), (4, .int i)]) C.hx C.hb dL_law_762 hl (by decide) rfl (fun ls hl => ?_)
    refine lv_aload_n C.hx C.hb dL_law_764 rfl (lv_at hl 4 rfl) ?_
    refine lqMo (z := nI 1) (c0 := ⟨nI T, er, nI nd, tp, fd, ee, oo, tt, rr, sw, hh, tx⟩) (m0 := ⟨v, nI T, er, nI 1, nW g, nW a, nW u, nW sl, nW kp, nI mm, nW P0, nW L0, sn, pv, nW r0, gn, vd, nI nd, x1, x2, x3, x4, x5, x6, x7, txt, txd⟩) (o := o) (As := []) (rest := []) C (c_X8_thrown l dC dI Z.kI Z.kB Z.kZ Z.ma v (nI T) er (nI 1) (nW g) (nW a) (nW u) (nW sl) (nW kp) (nI mm) (nW P0) (nW L0) sn pv (nW r0) gn vd (nI nd) x1 x2 x3 x4 x5 x6 x7 txt txd (nI 1) rfl) gL_law_X8_thrown qX8_thrown rfl ⟨(Nat.le_of_ble_eq_true rfl), (Nat.le_of_ble_eq_true rfl)⟩ ⟨rfl, rfl⟩ hP hD hS hl.1 rfl rfl (Nat.le_of_ble_eq_true rfl) dL_law_765 ⟨by omega, by omega⟩ (fun H locs hP hD hS => ?_)
    refine lv_iload C.hx C.hb dL_law_768 (lv_at hl 1 rfl) ?_
    refine lv_icmp_eq (tgt := 775) C.hx C.hb dL_law_770 (by decide) (fun _ => ?_) (fun h9 => absurd (by first | rfl | decide) h9)
    refine lv_iload C.hx C.hb dL_law_775 (lv_at hl 1 rfl) ?_
    refine lv_if_ne (tgt := 792) C.hx C.hb dL_law_777 (by decide) (fun _ => ?_) (fun h9 => absurd h9 (by decide))
    refine lv_goto (tgt := 2318) C.hx C.hb dL_law_792 (by decide) ?_
    exact KK ⟨nI T, er, nI nd, tp, fd, ee, oo, tt, rr, sw, hh, tx⟩ ⟨v, nI T, er, nI 1, nW g, nW a, nW u, nW sl, nW kp, nI mm, nW P0, nW L0, sn, pv, nW r0, gn, vd, nI nd, x1, x2, x3, x4, x5, x6, x7, txt, txd⟩ o H locs ls ⟨T, er, nd, tp, fd, ee, oo, tt, rr, sw, hh, tx, v, nI 1, g, a, u, sl, kp, mm, P0, L0, sn, pv, r0, gn, vd, x1, x2, x3, x4, x5, x6, x7, txt, txd, bb, rfl, rfl, hTP, hDD, hST, hOF⟩ hP hD hS (lv_sub hl [2, 3, 4, 5, 6] rfl)
set_option maxHeartbeats 4000000 in
set_option maxRecDepth 100000 in
theorem lc_11 (C : LC p l s m args c A0 K dC dI Z b L xs) (hf : 20000 ≤ fu) (hR : REL c0 m0) (hP : va_P (dC, dI) vwCl (LW Z c0 m0 o) H) (hD : va_D A0 (LW Z c0 m0 o)) (hS : va_S A0 s.heap H locs) (hl : lv_has ls 9 [(0, .ref b), (1, .ref (Z.ca 0)), (2, .ref (Z.ma 0)), (3, .ref Z.q), (4, .int i)]) (hi1 : vp_in (i + 1) L) (hcl : cells + 8 ≤ room_1.cells ∧ slots + 48 ≤ room_1.slots) (KK : LKK p l e s m args below meth c (cells + 8) (slots + 48) Q A0 dC dI Z b i) : W p l e room_1 s m args below meth c H locs cells slots Q (F0 m 795 ls []) := by
  obtain ⟨hc1, hc2⟩ := hcl
  obtain ⟨T, er, nd, tp, fd, ee, oo, tt, rr, sw, hh, tx, v, th, g, a, u, sl, kp, mm, P0, L0, sn, pv, r0, gn, vd, x1, x2, x3, x4, x5, x6, x7, txt, txd, bb, rfl, rfl, hTP, hDD, hST, hOF⟩ := hR
  have hRE := hST.1
  have hG := hST.2.1
  rcases t_save fu hf th hST (xs (i + 1).toNatClampNeg) with ⟨hh1, sl1, kp1, e1, e2, hST⟩ | ⟨e1, e2⟩
  · refine lv_aload_n C.hx C.hb dL_law_795 rfl (lv_at hl 1 rfl) ?_
    refine lv_aload_n C.hx C.hb dL_law_796 rfl (lv_at hl 0 rfl) ?_
    refine lv_iload C.hx C.hb dL_law_797 (lv_at hl 4 rfl) ?_
    refine lv_iconst (v := 1) C.hx C.hb dL_law_799 (by decide) ?_
    refine lv_iadd C.hx C.hb dL_law_800 ?_
    refine lq_x C hS hi1 dL_law_801 ?_
    refine lqLv (r := 0) (c0 := ⟨nI T, er, nI nd, tp, fd, ee, oo, tt, rr, sw, hh, tx⟩) (c1 := ⟨nI T, er, nI nd, tp, fd, ee, oo, tt, rr, sw, hh1, tx⟩) (m0 := ⟨v, nI T, er, th, nW g, nW a, nW u, nW sl, nW kp, nI mm, nW P0, nW L0, sn, pv, nW r0, gn, vd, nI nd, x1, x2, x3, x4, x5, x6, x7, txt, txd⟩) (o := o) (As := [.ref (Z.ca 0), .int (xs (i + 1).toNatClampNeg)]) (rest := []) C (c_L_save l C.hl0 dC dI K Z.kI Z.kE Z.kL Z.ca Z.a Z.b Z.oa Z.ob Z.ra Z.sa Z.ha Z.ux Z.uy tx (nI T) er (nI nd) tp fd ee oo tt rr sw hh (xs (i + 1).toNatClampNeg) H.size _ e1 0 (Or.inl ⟨rfl, rfl⟩)) gL_law_L_save qL_save rfl ⟨(Nat.le_of_ble_eq_true rfl), (Nat.le_of_ble_eq_true rfl)⟩ ⟨rfl, rfl⟩ hP hD hS hl.1 rfl rfl (Nat.le_of_ble_eq_true rfl) dL_law_802 ⟨by omega, by omega⟩ (fun H locs hP hD hS => ?_)
    refine W.widen (k := cells + 8) (n := slots + 48) (by omega) (by omega) ?_
    refine lv_istore (lv' := [(5, .int 0), (0, .ref b), (1, .ref (Z.ca 0)), (2, .ref (Z.ma 0)), (3, .ref Z.q), (4, .int i)]) C.hx C.hb dL_law_805 hl (by decide) rfl (fun ls hl => ?_)
    refine lv_aload_n C.hx C.hb dL_law_807 rfl (lv_at hl 3 rfl) ?_
    refine lv_aload_n C.hx C.hb dL_law_808 rfl (lv_at hl 1 rfl) ?_
    refine lv_iload C.hx C.hb dL_law_809 (lv_at hl 5 rfl) ?_
    refine lv_iconst (v := 1) C.hx C.hb dL_law_811 (by decide) ?_
    refine lv_iadd C.hx C.hb dL_law_812 ?_
    refine lq_x C hS hi1 dL_law_813 ?_
    refine lqMv (c0 := ⟨nI T, er, nI nd, tp, fd, ee, oo, tt, rr, sw, hh1, tx⟩) (m0 := ⟨v, nI T, er, th, nW g, nW a, nW u, nW sl, nW kp, nI mm, nW P0, nW L0, sn, pv, nW r0, gn, vd, nI nd, x1, x2, x3, x4, x5, x6, x7, txt, txd⟩) (m1 := ⟨v, nI T, er, nI 0, nW g, nW a, nW u, nW sl1, nW kp1, nI mm, nW P0, nW L0, sn, pv, nW r0, gn, vd, nI nd, x1, x2, x3, x4, x5, x6, x7, txt, txd⟩) (o := o) (As := [.int (xs (i + 1).toNatClampNeg)]) (rest := []) C (c_X8_save fu l dC dI Z.kI Z.kB Z.kZ Z.ma v (nI T) er th (nW g) (nW a) (nW u) (nW sl) (nW kp) (nI mm) (nW P0) (nW L0) sn pv (nW r0) gn vd (nI nd) x1 x2 x3 x4 x5 x6 x7 txt txd (xs (i + 1).toNatClampNeg) H.size _ e2) gL_law_X8_save qX8_save rfl ⟨(Nat.le_of_ble_eq_true rfl), (Nat.le_of_ble_eq_true rfl)⟩ ⟨rfl, rfl⟩ hP hD hS hl.1 rfl rfl (Nat.le_of_ble_eq_true rfl) dL_law_814 ⟨by omega, by omega⟩ (fun H locs hP hD hS => ?_)
    refine lv_aload_n C.hx C.hb dL_law_817 rfl (lv_at hl 3 rfl) ?_
    refine lqMo (z := nI 0) (c0 := ⟨nI T, er, nI nd, tp, fd, ee, oo, tt, rr, sw, hh1, tx⟩) (m0 := ⟨v, nI T, er, nI 0, nW g, nW a, nW u, nW sl1, nW kp1, nI mm, nW P0, nW L0, sn, pv, nW r0, gn, vd, nI nd, x1, x2, x3, x4, x5, x6, x7, txt, txd⟩) (o := o) (As := []) (rest := []) C (c_X8_thrown l dC dI Z.kI Z.kB Z.kZ Z.ma v (nI T) er (nI 0) (nW g) (nW a) (nW u) (nW sl1) (nW kp1) (nI mm) (nW P0) (nW L0) sn pv (nW r0) gn vd (nI nd) x1 x2 x3 x4 x5 x6 x7 txt txd (nI 0) rfl) gL_law_X8_thrown qX8_thrown rfl ⟨(Nat.le_of_ble_eq_true rfl), (Nat.le_of_ble_eq_true rfl)⟩ ⟨rfl, rfl⟩ hP hD hS hl.1 rfl rfl (Nat.le_of_ble_eq_true rfl) dL_law_818 ⟨by omega, by omega⟩ (fun H locs hP hD hS => ?_)
    refine lv_iload C.hx C.hb dL_law_821 (lv_at hl 0 rfl) ?_
    refine lv_icmp_eq (tgt := 828) C.hx C.hb dL_law_823 (by decide) (fun _ => ?_) (fun h9 => absurd (by first | rfl | decide) h9)
    refine lv_goto (tgt := 2318) C.hx C.hb dL_law_828 (by decide) ?_
    exact KK ⟨nI T, er, nI nd, tp, fd, ee, oo, tt, rr, sw, hh1, tx⟩ ⟨v, nI T, er, nI 0, nW g, nW a, nW u, nW sl1, nW kp1, nI mm, nW P0, nW L0, sn, pv, nW r0, gn, vd, nI nd, x1, x2, x3, x4, x5, x6, x7, txt, txd⟩ o H locs ls ⟨T, er, nd, tp, fd, ee, oo, tt, rr, sw, hh1, tx, v, nI 0, g, a, u, sl1, kp1, mm, P0, L0, sn, pv, r0, gn, vd, x1, x2, x3, x4, x5, x6, x7, txt, txd, bb, rfl, rfl, hTP, hDD, hST, hOF⟩ hP hD hS (lv_sub hl [1, 2, 3, 4, 5] rfl)
  · refine lv_aload_n C.hx C.hb dL_law_795 rfl (lv_at hl 1 rfl) ?_
    refine lv_aload_n C.hx C.hb dL_law_796 rfl (lv_at hl 0 rfl) ?_
    refine lv_iload C.hx C.hb dL_law_797 (lv_at hl 4 rfl) ?_
    refine lv_iconst (v := 1) C.hx C.hb dL_law_799 (by decide) ?_
    refine lv_iadd C.hx C.hb dL_law_800 ?_
    refine lq_x C hS hi1 dL_law_801 ?_
    refine lqLv (r := 1) (c0 := ⟨nI T, er, nI nd, tp, fd, ee, oo, tt, rr, sw, hh, tx⟩) (c1 := ⟨nI T, er, nI nd, tp, fd, ee, oo, tt, rr, sw, hh, tx⟩) (m0 := ⟨v, nI T, er, th, nW g, nW a, nW u, nW sl, nW kp, nI mm, nW P0, nW L0, sn, pv, nW r0, gn, vd, nI nd, x1, x2, x3, x4, x5, x6, x7, txt, txd⟩) (o := o) (As := [.ref (Z.ca 0), .int (xs (i + 1).toNatClampNeg)]) (rest := []) C (c_L_save l C.hl0 dC dI K Z.kI Z.kE Z.kL Z.ca Z.a Z.b Z.oa Z.ob Z.ra Z.sa Z.ha Z.ux Z.uy tx (nI T) er (nI nd) tp fd ee oo tt rr sw hh (xs (i + 1).toNatClampNeg) H.size _ e1 1 (Or.inr ⟨rfl, rfl⟩)) gL_law_L_save qL_save rfl ⟨(Nat.le_of_ble_eq_true rfl), (Nat.le_of_ble_eq_true rfl)⟩ ⟨rfl, rfl⟩ hP hD hS hl.1 rfl rfl (Nat.le_of_ble_eq_true rfl) dL_law_802 ⟨by omega, by omega⟩ (fun H locs hP hD hS => ?_)
    refine W.widen (k := cells + 8) (n := slots + 48) (by omega) (by omega) ?_
    refine lv_istore (lv' := [(5, .int 1), (0, .ref b), (1, .ref (Z.ca 0)), (2, .ref (Z.ma 0)), (3, .ref Z.q), (4, .int i)]) C.hx C.hb dL_law_805 hl (by decide) rfl (fun ls hl => ?_)
    refine lv_aload_n C.hx C.hb dL_law_807 rfl (lv_at hl 3 rfl) ?_
    refine lv_aload_n C.hx C.hb dL_law_808 rfl (lv_at hl 1 rfl) ?_
    refine lv_iload C.hx C.hb dL_law_809 (lv_at hl 5 rfl) ?_
    refine lv_iconst (v := 1) C.hx C.hb dL_law_811 (by decide) ?_
    refine lv_iadd C.hx C.hb dL_law_812 ?_
    refine lq_x C hS hi1 dL_law_813 ?_
    refine lqMv (c0 := ⟨nI T, er, nI nd, tp, fd, ee, oo, tt, rr, sw, hh, tx⟩) (m0 := ⟨v, nI T, er, th, nW g, nW a, nW u, nW sl, nW kp, nI mm, nW P0, nW L0, sn, pv, nW r0, gn, vd, nI nd, x1, x2, x3, x4, x5, x6, x7, txt, txd⟩) (m1 := ⟨v, nI T, er, nI 1, nW g, nW a, nW u, nW sl, nW kp, nI mm, nW P0, nW L0, sn, pv, nW r0, gn, vd, nI nd, x1, x2, x3, x4, x5, x6, x7, txt, txd⟩) (o := o) (As := [.int (xs (i + 1).toNatClampNeg)]) (rest := []) C (c_X8_save fu l dC dI Z.kI Z.kB Z.kZ Z.ma v (nI T) er th (nW g) (nW a) (nW u) (nW sl) (nW kp) (nI mm) (nW P0) (nW L0) sn pv (nW r0) gn vd (nI nd) x1 x2 x3 x4 x5 x6 x7 txt txd (xs (i + 1).toNatClampNeg) H.size _ e2) gL_law_X8_save qX8_save rfl ⟨(Nat.le_of_ble_eq_true rfl), (Nat.le_of_ble_eq_true rfl)⟩ ⟨rfl, rfl⟩ hP hD hS hl.1 rfl rfl (Nat.le_of_ble_eq_true rfl) dL_law_814 ⟨by omega, by omega⟩ (fun H locs hP hD hS => ?_)
    refine lv_aload_n C.hx C.hb dL_law_817 rfl (lv_at hl 3 rfl) ?_
    refine lqMo (z := nI 1) (c0 := ⟨nI T, er, nI nd, tp, fd, ee, oo, tt, rr, sw, hh, tx⟩) (m0 := ⟨v, nI T, er, nI 1, nW g, nW a, nW u, nW sl, nW kp, nI mm, nW P0, nW L0, sn, pv, nW r0, gn, vd, nI nd, x1, x2, x3, x4, x5, x6, x7, txt, txd⟩) (o := o) (As := []) (rest := []) C (c_X8_thrown l dC dI Z.kI Z.kB Z.kZ Z.ma v (nI T) er (nI 1) (nW g) (nW a) (nW u) (nW sl) (nW kp) (nI mm) (nW P0) (nW L0) sn pv (nW r0) gn vd (nI nd) x1 x2 x3 x4 x5 x6 x7 txt txd (nI 1) rfl) gL_law_X8_thrown qX8_thrown rfl ⟨(Nat.le_of_ble_eq_true rfl), (Nat.le_of_ble_eq_true rfl)⟩ ⟨rfl, rfl⟩ hP hD hS hl.1 rfl rfl (Nat.le_of_ble_eq_true rfl) dL_law_818 ⟨by omega, by omega⟩ (fun H locs hP hD hS => ?_)
    refine lv_iload C.hx C.hb dL_law_821 (lv_at hl 0 rfl) ?_
    refine lv_icmp_eq (tgt := 828) C.hx C.hb dL_law_823 (by decide) (fun _ => ?_) (fun h9 => absurd (by first | rfl | decide) h9)
    refine lv_goto (tgt := 2318) C.hx C.hb dL_law_828 (by decide) ?_
    exact KK ⟨nI T, er, nI nd, tp, fd, ee, oo, tt, rr, sw, hh, tx⟩ ⟨v, nI T, er, nI 1, nW g, nW a, nW u, nW sl, nW kp, nI mm, nW P0, nW L0, sn, pv, nW r0, gn, vd, nI nd, x1, x2, x3, x4, x5, x6, x7, txt, txd⟩ o H locs ls ⟨T, er, nd, tp, fd, ee, oo, tt, rr, sw, hh, tx, v, nI 1, g, a, u, sl, kp, mm, P0, L0, sn, pv, r0, gn, vd, x1, x2, x3, x4, x5, x6, x7, txt, txd, bb, rfl, rfl, hTP, hDD, hST, hOF⟩ hP hD hS (lv_sub hl [1, 2, 3, 4, 5] rfl)
set_option maxHeartbeats 4000000 in
set_option maxRecDepth 100000 in
theorem lc_12 (C : LC p l s m args c A0 K dC dI Z b L xs) (hf : 20000 ≤ fu) (hR : REL c0 m0) (hP : va_P (dC, dI) vwCl (LW Z c0 m0 o) H) (hD : va_D A0 (LW Z c0 m0 o)) (hS : va_S A0 s.heap H locs) (hl : lv_has ls 9 [(0, .ref b), (1, .ref (Z.ca 0)), (2, .ref (Z.ma 0)), (3, .ref Z.q), (4, .int i)]) (hi1 : vp_in (i + 1) L) (hcl : cells + 8 ≤ room_1.cells ∧ slots + 48 ≤ room_1.slots) (KK : LKK p l e s m args below meth c (cells + 8) (slots + 48) Q A0 dC dI Z b i) : W p l e room_1 s m args below meth c H locs cells slots Q (F0 m 831 ls []) := by
  obtain ⟨hc1, hc2⟩ := hcl
  obtain ⟨T, er, nd, tp, fd, ee, oo, tt, rr, sw, hh, tx, v, th, g, a, u, sl, kp, mm, P0, L0, sn, pv, r0, gn, vd, x1, x2, x3, x4, x5, x6, x7, txt, txd, bb, rfl, rfl, hTP, hDD, hST, hOF⟩ := hR
  have hRE := hST.1
  have hG := hST.2.1
  rcases t_restore fu hf th hST a (xs (i + 1).toNatClampNeg) with ⟨w, ee1, hh1, g1, a1, u1, m1, e1, e2, hST⟩ | ⟨e1, e2⟩ | ⟨e1, e2⟩
  · refine lv_aload_n C.hx C.hb dL_law_831 rfl (lv_at hl 1 rfl) ?_
    refine lv_aload_n C.hx C.hb dL_law_832 rfl (lv_at hl 0 rfl) ?_
    refine lv_iload C.hx C.hb dL_law_833 (lv_at hl 4 rfl) ?_
    refine lv_iconst (v := 1) C.hx C.hb dL_law_835 (by decide) ?_
    refine lv_iadd C.hx C.hb dL_law_836 ?_
    refine lq_x C hS hi1 dL_law_837 ?_
    refine lv_aload_n C.hx C.hb dL_law_838 rfl (lv_at hl 3 rfl) ?_
    refine lqL (r := 0) (c0 := ⟨nI T, er, nI nd, tp, fd, ee, oo, tt, rr, sw, hh, tx⟩) (c1 := ⟨nI T, er, nI nd, tp, fd, ee1, oo, tt, rr, sw, hh1, tx⟩) (m0 := ⟨v, nI T, er, th, nW g, nW a, nW u, nW sl, nW kp, nI mm, nW P0, nW L0, sn, pv, nW r0, gn, vd, nI nd, x1, x2, x3, x4, x5, x6, x7, txt, txd⟩) (o := o) (o1 := (vp_updL o 0 w.toInt64)) (As := [.ref (Z.ca 0), .int (xs (i + 1).toNatClampNeg), .ref Z.q]) (rest := []) C (c_L_restore l C.hl0 dC dI K Z.kI Z.kE Z.kL Z.ca Z.a Z.b Z.oa Z.ob Z.ra Z.sa Z.ha Z.ux Z.uy tx (nI T) er (nI nd) tp fd ee oo tt rr sw hh (xs (i + 1).toNatClampNeg) Z.q o H.size _ e1 0 (vp_updL o 0 w.toInt64) (Or.inl ⟨w, rfl, rfl, rfl⟩)) gL_law_L_restore qL_restore rfl ⟨(Nat.le_of_ble_eq_true rfl), (Nat.le_of_ble_eq_true rfl)⟩ ⟨rfl, rfl⟩ hP hD hS hl.1 rfl rfl (Nat.le_of_ble_eq_true rfl) dL_law_839 ⟨by omega, by omega⟩ (fun H locs hP hD hS => ?_)
    refine W.widen (k := cells + 8) (n := slots + 48) (by omega) (by omega) ?_
    refine lv_istore (lv' := [(5, .int 0), (0, .ref b), (1, .ref (Z.ca 0)), (2, .ref (Z.ma 0)), (3, .ref Z.q), (4, .int i)]) C.hx C.hb dL_law_842 hl (by decide) rfl (fun ls hl => ?_)
    refine lv_aload_n C.hx C.hb dL_law_844 rfl (lv_at hl 3 rfl) ?_
    refine lv_aload_n C.hx C.hb dL_law_845 rfl (lv_at hl 1 rfl) ?_
    refine lv_iload C.hx C.hb dL_law_846 (lv_at hl 5 rfl) ?_
    refine lv_iconst (v := 1) C.hx C.hb dL_law_848 (by decide) ?_
    refine lv_iadd C.hx C.hb dL_law_849 ?_
    refine lq_x C hS hi1 dL_law_850 ?_
    refine lqMi (z := w) (c0 := ⟨nI T, er, nI nd, tp, fd, ee1, oo, tt, rr, sw, hh1, tx⟩) (m0 := ⟨v, nI T, er, th, nW g, nW a, nW u, nW sl, nW kp, nI mm, nW P0, nW L0, sn, pv, nW r0, gn, vd, nI nd, x1, x2, x3, x4, x5, x6, x7, txt, txd⟩) (m1 := ⟨v, nI T, er, nI 0, nW g1, nW a1, nW u1, nW sl, nW kp, nI m1, nW P0, nW L0, sn, pv, nW r0, gn, vd, nI nd, x1, x2, x3, x4, x5, x6, x7, txt, txd⟩) (o := (vp_updL o 0 w.toInt64)) (As := [.int (xs (i + 1).toNatClampNeg)]) (rest := []) C (c_X8_restore fu l dC dI Z.kI Z.kB Z.kZ Z.ma v (nI T) er th (nW g) (nW a) (nW u) (nW sl) (nW kp) (nI mm) (nW P0) (nW L0) sn pv (nW r0) gn vd (nI nd) x1 x2 x3 x4 x5 x6 x7 txt txd (xs (i + 1).toNatClampNeg) H.size _ e2) gL_law_X8_restore qX8_restore rfl ⟨(Nat.le_of_ble_eq_true rfl), (Nat.le_of_ble_eq_true rfl)⟩ ⟨rfl, rfl⟩ hP hD hS hl.1 rfl rfl (Nat.le_of_ble_eq_true rfl) dL_law_851 ⟨by omega, by omega⟩ (fun H locs hP hD hS => ?_)
    refine lv_istore (lv' := [(6, .int w), (5, .int 0), (0, .ref b), (1, .ref (Z.ca 0)), (2, .ref (Z.ma 0)), (3, .ref Z.q), (4, .int i)]) C.hx C.hb dL_law_854 hl (by decide) rfl (fun ls hl => ?_)
    refine lv_aload_n C.hx C.hb dL_law_856 rfl (lv_at hl 4 rfl) ?_
    refine lqMo (z := nI 0) (c0 := ⟨nI T, er, nI nd, tp, fd, ee1, oo, tt, rr, sw, hh1, tx⟩) (m0 := ⟨v, nI T, er, nI 0, nW g1, nW a1, nW u1, nW sl, nW kp, nI m1, nW P0, nW L0, sn, pv, nW r0, gn, vd, nI nd, x1, x2, x3, x4, x5, x6, x7, txt, txd⟩) (o := (vp_updL o 0 w.toInt64)) (As := []) (rest := []) C (c_X8_thrown l dC dI Z.kI Z.kB Z.kZ Z.ma v (nI T) er (nI 0) (nW g1) (nW a1) (nW u1) (nW sl) (nW kp) (nI m1) (nW P0) (nW L0) sn pv (nW r0) gn vd (nI nd) x1 x2 x3 x4 x5 x6 x7 txt txd (nI 0) rfl) gL_law_X8_thrown qX8_thrown rfl ⟨(Nat.le_of_ble_eq_true rfl), (Nat.le_of_ble_eq_true rfl)⟩ ⟨rfl, rfl⟩ hP hD hS hl.1 rfl rfl (Nat.le_of_ble_eq_true rfl) dL_law_857 ⟨by omega, by omega⟩ (fun H locs hP hD hS => ?_)
    refine lv_iload C.hx C.hb dL_law_860 (lv_at hl 1 rfl) ?_
    refine lv_icmp_eq (tgt := 867) C.hx C.hb dL_law_862 (by decide) (fun _ => ?_) (fun h9 => absurd (by first | rfl | decide) h9)
    refine lv_iload C.hx C.hb dL_law_867 (lv_at hl 1 rfl) ?_
    refine lv_if_ne (tgt := 884) C.hx C.hb dL_law_869 (by decide) (fun h9 => absurd rfl h9) (fun _ => ?_)
    refine lv_aload_n C.hx C.hb dL_law_872 rfl (lv_at hl 5 rfl) ?_
    refine lv_iconst (v := 0) C.hx C.hb dL_law_873 (by decide) ?_
    refine lq_o C hP dL_law_874 ?_
    refine lv_iload C.hx C.hb dL_law_875 (lv_at hl 0 rfl) ?_
    refine lv_i2l (v := w.toInt64) C.hx C.hb dL_law_877 rfl ?_
    refine W.lcmp C.hx C.hb dL_law_878 ?_
    refine lv_if_eq (tgt := 884) C.hx C.hb dL_law_879 (by decide) (fun _ => ?_) (fun h9 => absurd (cmp_self _) h9)
    refine lv_goto (tgt := 2318) C.hx C.hb dL_law_884 (by decide) ?_
    exact KK ⟨nI T, er, nI nd, tp, fd, ee1, oo, tt, rr, sw, hh1, tx⟩ ⟨v, nI T, er, nI 0, nW g1, nW a1, nW u1, nW sl, nW kp, nI m1, nW P0, nW L0, sn, pv, nW r0, gn, vd, nI nd, x1, x2, x3, x4, x5, x6, x7, txt, txd⟩ (vp_updL o 0 w.toInt64) H locs ls ⟨T, er, nd, tp, fd, ee1, oo, tt, rr, sw, hh1, tx, v, nI 0, g1, a1, u1, sl, kp, m1, P0, L0, sn, pv, r0, gn, vd, x1, x2, x3, x4, x5, x6, x7, txt, txd, bb, rfl, rfl, hTP, hDD, hST, hOF⟩ hP hD hS (lv_sub hl [2, 3, 4, 5, 6] rfl)
  · refine lv_aload_n C.hx C.hb dL_law_831 rfl (lv_at hl 1 rfl) ?_
    refine lv_aload_n C.hx C.hb dL_law_832 rfl (lv_at hl 0 rfl) ?_
    refine lv_iload C.hx C.hb dL_law_833 (lv_at hl 4 rfl) ?_
    refine lv_iconst (v := 1) C.hx C.hb dL_law_835 (by decide) ?_
    refine lv_iadd C.hx C.hb dL_law_836 ?_
    refine lq_x C hS hi1 dL_law_837 ?_
    refine lv_aload_n C.hx C.hb dL_law_838 rfl (lv_at hl 3 rfl) ?_
    refine lqL (r := 1) (c0 := ⟨nI T, er, nI nd, tp, fd, ee, oo, tt, rr, sw, hh, tx⟩) (c1 := ⟨nI T, er, nI nd, tp, fd, ee, oo, tt, rr, sw, hh, tx⟩) (m0 := ⟨v, nI T, er, th, nW g, nW a, nW u, nW sl, nW kp, nI mm, nW P0, nW L0, sn, pv, nW r0, gn, vd, nI nd, x1, x2, x3, x4, x5, x6, x7, txt, txd⟩) (o := o) (o1 := o) (As := [.ref (Z.ca 0), .int (xs (i + 1).toNatClampNeg), .ref Z.q]) (rest := []) C (c_L_restore l C.hl0 dC dI K Z.kI Z.kE Z.kL Z.ca Z.a Z.b Z.oa Z.ob Z.ra Z.sa Z.ha Z.ux Z.uy tx (nI T) er (nI nd) tp fd ee oo tt rr sw hh (xs (i + 1).toNatClampNeg) Z.q o H.size _ e1 1 o (Or.inr (Or.inl ⟨rfl, rfl, rfl⟩))) gL_law_L_restore qL_restore rfl ⟨(Nat.le_of_ble_eq_true rfl), (Nat.le_of_ble_eq_true rfl)⟩ ⟨rfl, rfl⟩ hP hD hS hl.1 rfl rfl (Nat.le_of_ble_eq_true rfl) dL_law_839 ⟨by omega, by omega⟩ (fun H locs hP hD hS => ?_)
    refine W.widen (k := cells + 8) (n := slots + 48) (by omega) (by omega) ?_
    refine lv_istore (lv' := [(5, .int 1), (0, .ref b), (1, .ref (Z.ca 0)), (2, .ref (Z.ma 0)), (3, .ref Z.q), (4, .int i)]) C.hx C.hb dL_law_842 hl (by decide) rfl (fun ls hl => ?_)
    refine lv_aload_n C.hx C.hb dL_law_844 rfl (lv_at hl 3 rfl) ?_
    refine lv_aload_n C.hx C.hb dL_law_845 rfl (lv_at hl 1 rfl) ?_
    refine lv_iload C.hx C.hb dL_law_846 (lv_at hl 5 rfl) ?_
    refine lv_iconst (v := 1) C.hx C.hb dL_law_848 (by decide) ?_
    refine lv_iadd C.hx C.hb dL_law_849 ?_
    refine lq_x C hS hi1 dL_law_850 ?_
    refine lqMi (z := nI 0) (c0 := ⟨nI T, er, nI nd, tp, fd, ee, oo, tt, rr, sw, hh, tx⟩) (m0 := ⟨v, nI T, er, th, nW g, nW a, nW u, nW sl, nW kp, nI mm, nW P0, nW L0, sn, pv, nW r0, gn, vd, nI nd, x1, x2, x3, x4, x5, x6, x7, txt, txd⟩) (m1 := ⟨v, nI T, er, nI 1, nW g, nW a, nW u, nW sl, nW kp, nI mm, nW P0, nW L0, sn, pv, nW r0, gn, vd, nI nd, x1, x2, x3, x4, x5, x6, x7, txt, txd⟩) (o := o) (As := [.int (xs (i + 1).toNatClampNeg)]) (rest := []) C (c_X8_restore fu l dC dI Z.kI Z.kB Z.kZ Z.ma v (nI T) er th (nW g) (nW a) (nW u) (nW sl) (nW kp) (nI mm) (nW P0) (nW L0) sn pv (nW r0) gn vd (nI nd) x1 x2 x3 x4 x5 x6 x7 txt txd (xs (i + 1).toNatClampNeg) H.size _ e2) gL_law_X8_restore qX8_restore rfl ⟨(Nat.le_of_ble_eq_true rfl), (Nat.le_of_ble_eq_true rfl)⟩ ⟨rfl, rfl⟩ hP hD hS hl.1 rfl rfl (Nat.le_of_ble_eq_true rfl) dL_law_851 ⟨by omega, by omega⟩ (fun H locs hP hD hS => ?_)
    refine lv_istore (lv' := [(6, .int (nI 0)), (5, .int 1), (0, .ref b), (1, .ref (Z.ca 0)), (2, .ref (Z.ma 0)), (3, .ref Z.q), (4, .int i)]) C.hx C.hb dL_law_854 hl (by decide) rfl (fun ls hl => ?_)
    refine lv_aload_n C.hx C.hb dL_law_856 rfl (lv_at hl 4 rfl) ?_
    refine lqMo (z := nI 1) (c0 := ⟨nI T, er, nI nd, tp, fd, ee, oo, tt, rr, sw, hh, tx⟩) (m0 := ⟨v, nI T, er, nI 1, nW g, nW a, nW u, nW sl, nW kp, nI mm, nW P0, nW L0, sn, pv, nW r0, gn, vd, nI nd, x1, x2, x3, x4, x5, x6, x7, txt, txd⟩) (o := o) (As := []) (rest := []) C (c_X8_thrown l dC dI Z.kI Z.kB Z.kZ Z.ma v (nI T) er (nI 1) (nW g) (nW a) (nW u) (nW sl) (nW kp) (nI mm) (nW P0) (nW L0) sn pv (nW r0) gn vd (nI nd) x1 x2 x3 x4 x5 x6 x7 txt txd (nI 1) rfl) gL_law_X8_thrown qX8_thrown rfl ⟨(Nat.le_of_ble_eq_true rfl), (Nat.le_of_ble_eq_true rfl)⟩ ⟨rfl, rfl⟩ hP hD hS hl.1 rfl rfl (Nat.le_of_ble_eq_true rfl) dL_law_857 ⟨by omega, by omega⟩ (fun H locs hP hD hS => ?_)
    refine lv_iload C.hx C.hb dL_law_860 (lv_at hl 1 rfl) ?_
    refine lv_icmp_eq (tgt := 867) C.hx C.hb dL_law_862 (by decide) (fun _ => ?_) (fun h9 => absurd (by first | rfl | decide) h9)
    refine lv_iload C.hx C.hb dL_law_867 (lv_at hl 1 rfl) ?_
    refine lv_if_ne (tgt := 884) C.hx C.hb dL_law_869 (by decide) (fun _ => ?_) (fun h9 => absurd h9 (by decide))
    refine lv_goto (tgt := 2318) C.hx C.hb dL_law_884 (by decide) ?_
    exact KK ⟨nI T, er, nI nd, tp, fd, ee, oo, tt, rr, sw, hh, tx⟩ ⟨v, nI T, er, nI 1, nW g, nW a, nW u, nW sl, nW kp, nI mm, nW P0, nW L0, sn, pv, nW r0, gn, vd, nI nd, x1, x2, x3, x4, x5, x6, x7, txt, txd⟩ o H locs ls ⟨T, er, nd, tp, fd, ee, oo, tt, rr, sw, hh, tx, v, nI 1, g, a, u, sl, kp, mm, P0, L0, sn, pv, r0, gn, vd, x1, x2, x3, x4, x5, x6, x7, txt, txd, bb, rfl, rfl, hTP, hDD, hST, hOF⟩ hP hD hS (lv_sub hl [2, 3, 4, 5, 6] rfl)
  · refine lv_aload_n C.hx C.hb dL_law_831 rfl (lv_at hl 1 rfl) ?_
    refine lv_aload_n C.hx C.hb dL_law_832 rfl (lv_at hl 0 rfl) ?_
    refine lv_iload C.hx C.hb dL_law_833 (lv_at hl 4 rfl) ?_
    refine lv_iconst (v := 1) C.hx C.hb dL_law_835 (by decide) ?_
    refine lv_iadd C.hx C.hb dL_law_836 ?_
    refine lq_x C hS hi1 dL_law_837 ?_
    refine lv_aload_n C.hx C.hb dL_law_838 rfl (lv_at hl 3 rfl) ?_
    refine lqL (r := 2) (c0 := ⟨nI T, er, nI nd, tp, fd, ee, oo, tt, rr, sw, hh, tx⟩) (c1 := ⟨nI T, er, nI nd, tp, fd, ee, oo, tt, rr, sw, hh, tx⟩) (m0 := ⟨v, nI T, er, th, nW g, nW a, nW u, nW sl, nW kp, nI mm, nW P0, nW L0, sn, pv, nW r0, gn, vd, nI nd, x1, x2, x3, x4, x5, x6, x7, txt, txd⟩) (o := o) (o1 := o) (As := [.ref (Z.ca 0), .int (xs (i + 1).toNatClampNeg), .ref Z.q]) (rest := []) C (c_L_restore l C.hl0 dC dI K Z.kI Z.kE Z.kL Z.ca Z.a Z.b Z.oa Z.ob Z.ra Z.sa Z.ha Z.ux Z.uy tx (nI T) er (nI nd) tp fd ee oo tt rr sw hh (xs (i + 1).toNatClampNeg) Z.q o H.size _ e1 2 o (Or.inr (Or.inr ⟨rfl, rfl, rfl⟩))) gL_law_L_restore qL_restore rfl ⟨(Nat.le_of_ble_eq_true rfl), (Nat.le_of_ble_eq_true rfl)⟩ ⟨rfl, rfl⟩ hP hD hS hl.1 rfl rfl (Nat.le_of_ble_eq_true rfl) dL_law_839 ⟨by omega, by omega⟩ (fun H locs hP hD hS => ?_)
    refine W.widen (k := cells + 8) (n := slots + 48) (by omega) (by omega) ?_
    refine lv_istore (lv' := [(5, .int 2), (0, .ref b), (1, .ref (Z.ca 0)), (2, .ref (Z.ma 0)), (3, .ref Z.q), (4, .int i)]) C.hx C.hb dL_law_842 hl (by decide) rfl (fun ls hl => ?_)
    refine lv_aload_n C.hx C.hb dL_law_844 rfl (lv_at hl 3 rfl) ?_
    refine lv_aload_n C.hx C.hb dL_law_845 rfl (lv_at hl 1 rfl) ?_
    refine lv_iload C.hx C.hb dL_law_846 (lv_at hl 5 rfl) ?_
    refine lv_iconst (v := 1) C.hx C.hb dL_law_848 (by decide) ?_
    refine lv_iadd C.hx C.hb dL_law_849 ?_
    refine lq_x C hS hi1 dL_law_850 ?_
    refine lqMi (z := nI 0) (c0 := ⟨nI T, er, nI nd, tp, fd, ee, oo, tt, rr, sw, hh, tx⟩) (m0 := ⟨v, nI T, er, th, nW g, nW a, nW u, nW sl, nW kp, nI mm, nW P0, nW L0, sn, pv, nW r0, gn, vd, nI nd, x1, x2, x3, x4, x5, x6, x7, txt, txd⟩) (m1 := ⟨v, nI T, er, nI 2, nW g, nW a, nW u, nW sl, nW kp, nI mm, nW P0, nW L0, sn, pv, nW r0, gn, vd, nI nd, x1, x2, x3, x4, x5, x6, x7, txt, txd⟩) (o := o) (As := [.int (xs (i + 1).toNatClampNeg)]) (rest := []) C (c_X8_restore fu l dC dI Z.kI Z.kB Z.kZ Z.ma v (nI T) er th (nW g) (nW a) (nW u) (nW sl) (nW kp) (nI mm) (nW P0) (nW L0) sn pv (nW r0) gn vd (nI nd) x1 x2 x3 x4 x5 x6 x7 txt txd (xs (i + 1).toNatClampNeg) H.size _ e2) gL_law_X8_restore qX8_restore rfl ⟨(Nat.le_of_ble_eq_true rfl), (Nat.le_of_ble_eq_true rfl)⟩ ⟨rfl, rfl⟩ hP hD hS hl.1 rfl rfl (Nat.le_of_ble_eq_true rfl) dL_law_851 ⟨by omega, by omega⟩ (fun H locs hP hD hS => ?_)
    refine lv_istore (lv' := [(6, .int (nI 0)), (5, .int 2), (0, .ref b), (1, .ref (Z.ca 0)), (2, .ref (Z.ma 0)), (3, .ref Z.q), (4, .int i)]) C.hx C.hb dL_law_854 hl (by decide) rfl (fun ls hl => ?_)
    refine lv_aload_n C.hx C.hb dL_law_856 rfl (lv_at hl 4 rfl) ?_
    refine lqMo (z := nI 2) (c0 := ⟨nI T, er, nI nd, tp, fd, ee, oo, tt, rr, sw, hh, tx⟩) (m0 := ⟨v, nI T, er, nI 2, nW g, nW a, nW u, nW sl, nW kp, nI mm, nW P0, nW L0, sn, pv, nW r0, gn, vd, nI nd, x1, x2, x3, x4, x5, x6, x7, txt, txd⟩) (o := o) (As := []) (rest := []) C (c_X8_thrown l dC dI Z.kI Z.kB Z.kZ Z.ma v (nI T) er (nI 2) (nW g) (nW a) (nW u) (nW sl) (nW kp) (nI mm) (nW P0) (nW L0) sn pv (nW r0) gn vd (nI nd) x1 x2 x3 x4 x5 x6 x7 txt txd (nI 2) rfl) gL_law_X8_thrown qX8_thrown rfl ⟨(Nat.le_of_ble_eq_true rfl), (Nat.le_of_ble_eq_true rfl)⟩ ⟨rfl, rfl⟩ hP hD hS hl.1 rfl rfl (Nat.le_of_ble_eq_true rfl) dL_law_857 ⟨by omega, by omega⟩ (fun H locs hP hD hS => ?_)
    refine lv_iload C.hx C.hb dL_law_860 (lv_at hl 1 rfl) ?_
    refine lv_icmp_eq (tgt := 867) C.hx C.hb dL_law_862 (by decide) (fun _ => ?_) (fun h9 => absurd (by first | rfl | decide) h9)
    refine lv_iload C.hx C.hb dL_law_867 (lv_at hl 1 rfl) ?_
    refine lv_if_ne (tgt := 884) C.hx C.hb dL_law_869 (by decide) (fun _ => ?_) (fun h9 => absurd h9 (by decide))
    refine lv_goto (tgt := 2318) C.hx C.hb dL_law_884 (by decide) ?_
    exact KK ⟨nI T, er, nI nd, tp, fd, ee, oo, tt, rr, sw, hh, tx⟩ ⟨v, nI T, er, nI 2, nW g, nW a, nW u, nW sl, nW kp, nI mm, nW P0, nW L0, sn, pv, nW r0, gn, vd, nI nd, x1, x2, x3, x4, x5, x6, x7, txt, txd⟩ o H locs ls ⟨T, er, nd, tp, fd, ee, oo, tt, rr, sw, hh, tx, v, nI 2, g, a, u, sl, kp, mm, P0, L0, sn, pv, r0, gn, vd, x1, x2, x3, x4, x5, x6, x7, txt, txd, bb, rfl, rfl, hTP, hDD, hST, hOF⟩ hP hD hS (lv_sub hl [2, 3, 4, 5, 6] rfl)
set_option maxHeartbeats 4000000 in
set_option maxRecDepth 100000 in
theorem lc_13 (C : LC p l s m args c A0 K dC dI Z b L xs) (hf : 20000 ≤ fu) (hR : REL c0 m0) (hP : va_P (dC, dI) vwCl (LW Z c0 m0 o) H) (hD : va_D A0 (LW Z c0 m0 o)) (hS : va_S A0 s.heap H locs) (hl : lv_has ls 9 [(0, .ref b), (1, .ref (Z.ca 0)), (2, .ref (Z.ma 0)), (3, .ref Z.q), (4, .int i)])  (hcl : cells + 8 ≤ room_1.cells ∧ slots + 48 ≤ room_1.slots) (KK : LKK p l e s m args below meth c (cells + 8) (slots + 48) Q A0 dC dI Z b i) : W p l e room_1 s m args below meth c H locs cells slots Q (F0 m 887 ls []) := by
  obtain ⟨hc1, hc2⟩ := hcl
  obtain ⟨T, er, nd, tp, fd, ee, oo, tt, rr, sw, hh, tx, v, th, g, a, u, sl, kp, mm, P0, L0, sn, pv, r0, gn, vd, x1, x2, x3, x4, x5, x6, x7, txt, txd, bb, rfl, rfl, hTP, hDD, hST, hOF⟩ := hR
  have hRE := hST.1
  have hG := hST.2.1
  rcases t_undo fu hf th hST with ⟨w, ee1, hh1, g1, m1, e1, e2, hST⟩ | ⟨e1, e2⟩
  · refine lv_aload_n C.hx C.hb dL_law_887 rfl (lv_at hl 1 rfl) ?_
    refine lv_aload_n C.hx C.hb dL_law_888 rfl (lv_at hl 3 rfl) ?_
    refine lqL (r := 0) (c0 := ⟨nI T, er, nI nd, tp, fd, ee, oo, tt, rr, sw, hh, tx⟩) (c1 := ⟨nI T, er, nI nd, tp, fd, ee1, oo, tt, rr, sw, hh1, tx⟩) (m0 := ⟨v, nI T, er, th, nW g, nW a, nW u, nW sl, nW kp, nI mm, nW P0, nW L0, sn, pv, nW r0, gn, vd, nI nd, x1, x2, x3, x4, x5, x6, x7, txt, txd⟩) (o := o) (o1 := (vp_updL o 0 w.toInt64)) (As := [.ref (Z.ca 0), .ref Z.q]) (rest := []) C (c_L_undo l C.hl0 dC dI K Z.kI Z.kE Z.kL Z.ca Z.a Z.b Z.oa Z.ob Z.ra Z.sa Z.ha Z.ux Z.uy tx (nI T) er (nI nd) tp fd ee oo tt rr sw hh Z.q o H.size _ e1 0 (vp_updL o 0 w.toInt64) (Or.inl ⟨w, rfl, rfl, rfl⟩)) gL_law_L_undo qL_undo rfl ⟨(Nat.le_of_ble_eq_true rfl), (Nat.le_of_ble_eq_true rfl)⟩ ⟨rfl, rfl⟩ hP hD hS hl.1 rfl rfl (Nat.le_of_ble_eq_true rfl) dL_law_889 ⟨by omega, by omega⟩ (fun H locs hP hD hS => ?_)
    refine W.widen (k := cells + 8) (n := slots + 48) (by omega) (by omega) ?_
    refine lv_istore (lv' := [(5, .int 0), (0, .ref b), (1, .ref (Z.ca 0)), (2, .ref (Z.ma 0)), (3, .ref Z.q), (4, .int i)]) C.hx C.hb dL_law_892 hl (by decide) rfl (fun ls hl => ?_)
    refine lv_aload_n C.hx C.hb dL_law_894 rfl (lv_at hl 3 rfl) ?_
    refine lqMi (z := w) (c0 := ⟨nI T, er, nI nd, tp, fd, ee1, oo, tt, rr, sw, hh1, tx⟩) (m0 := ⟨v, nI T, er, th, nW g, nW a, nW u, nW sl, nW kp, nI mm, nW P0, nW L0, sn, pv, nW r0, gn, vd, nI nd, x1, x2, x3, x4, x5, x6, x7, txt, txd⟩) (m1 := ⟨v, nI T, er, nI 0, nW g1, nW a, nW u, nW sl, nW kp, nI m1, nW P0, nW L0, sn, pv, nW r0, gn, vd, nI nd, x1, x2, x3, x4, x5, x6, x7, txt, txd⟩) (o := (vp_updL o 0 w.toInt64)) (As := []) (rest := []) C (c_X8_undo fu l dC dI Z.kI Z.kB Z.kZ Z.ma v (nI T) er th (nW g) (nW a) (nW u) (nW sl) (nW kp) (nI mm) (nW P0) (nW L0) sn pv (nW r0) gn vd (nI nd) x1 x2 x3 x4 x5 x6 x7 txt txd H.size _ e2) gL_law_X8_undo qX8_undo rfl ⟨(Nat.le_of_ble_eq_true rfl), (Nat.le_of_ble_eq_true rfl)⟩ ⟨rfl, rfl⟩ hP hD hS hl.1 rfl rfl (Nat.le_of_ble_eq_true rfl) dL_law_895 ⟨by omega, by omega⟩ (fun H locs hP hD hS => ?_)
    refine lv_istore (lv' := [(6, .int w), (5, .int 0), (0, .ref b), (1, .ref (Z.ca 0)), (2, .ref (Z.ma 0)), (3, .ref Z.q), (4, .int i)]) C.hx C.hb dL_law_898 hl (by decide) rfl (fun ls hl => ?_)
    refine lv_aload_n C.hx C.hb dL_law_900 rfl (lv_at hl 4 rfl) ?_
    refine lqMo (z := nI 0) (c0 := ⟨nI T, er, nI nd, tp, fd, ee1, oo, tt, rr, sw, hh1, tx⟩) (m0 := ⟨v, nI T, er, nI 0, nW g1, nW a, nW u, nW sl, nW kp, nI m1, nW P0, nW L0, sn, pv, nW r0, gn, vd, nI nd, x1, x2, x3, x4, x5, x6, x7, txt, txd⟩) (o := (vp_updL o 0 w.toInt64)) (As := []) (rest := []) C (c_X8_thrown l dC dI Z.kI Z.kB Z.kZ Z.ma v (nI T) er (nI 0) (nW g1) (nW a) (nW u) (nW sl) (nW kp) (nI m1) (nW P0) (nW L0) sn pv (nW r0) gn vd (nI nd) x1 x2 x3 x4 x5 x6 x7 txt txd (nI 0) rfl) gL_law_X8_thrown qX8_thrown rfl ⟨(Nat.le_of_ble_eq_true rfl), (Nat.le_of_ble_eq_true rfl)⟩ ⟨rfl, rfl⟩ hP hD hS hl.1 rfl rfl (Nat.le_of_ble_eq_true rfl) dL_law_901 ⟨by omega, by omega⟩ (fun H locs hP hD hS => ?_)
    refine lv_iload C.hx C.hb dL_law_904 (lv_at hl 1 rfl) ?_
    refine lv_icmp_eq (tgt := 911) C.hx C.hb dL_law_906 (by decide) (fun _ => ?_) (fun h9 => absurd (by first | rfl | decide) h9)
    refine lv_iload C.hx C.hb dL_law_911 (lv_at hl 1 rfl) ?_
    refine lv_if_ne (tgt := 928) C.hx C.hb dL_law_913 (by decide) (fun h9 => absurd rfl h9) (fun _ => ?_)
    refine lv_aload_n C.hx C.hb dL_law_916 rfl (lv_at hl 5 rfl) ?_
    refine lv_iconst (v := 0) C.hx C.hb dL_law_917 (by decide) ?_
    refine lq_o C hP dL_law_918 ?_
    refine lv_iload C.hx C.hb dL_law_919 (lv_at hl 0 rfl) ?_
    refine lv_i2l (v := w.toInt64) C.hx C.hb dL_law_921 rfl ?_
    refine W.lcmp C.hx C.hb dL_law_922 ?_
    refine lv_if_eq (tgt := 928) C.hx C.hb dL_law_923 (by decide) (fun _ => ?_) (fun h9 => absurd (cmp_self _) h9)
    refine lv_goto (tgt := 2318) C.hx C.hb dL_law_928 (by decide) ?_
    exact KK ⟨nI T, er, nI nd, tp, fd, ee1, oo, tt, rr, sw, hh1, tx⟩ ⟨v, nI T, er, nI 0, nW g1, nW a, nW u, nW sl, nW kp, nI m1, nW P0, nW L0, sn, pv, nW r0, gn, vd, nI nd, x1, x2, x3, x4, x5, x6, x7, txt, txd⟩ (vp_updL o 0 w.toInt64) H locs ls ⟨T, er, nd, tp, fd, ee1, oo, tt, rr, sw, hh1, tx, v, nI 0, g1, a, u, sl, kp, m1, P0, L0, sn, pv, r0, gn, vd, x1, x2, x3, x4, x5, x6, x7, txt, txd, bb, rfl, rfl, hTP, hDD, hST, hOF⟩ hP hD hS (lv_sub hl [2, 3, 4, 5, 6] rfl)
  · refine lv_aload_n C.hx C.hb dL_law_887 rfl (lv_at hl 1 rfl) ?_
    refine lv_aload_n C.hx C.hb dL_law_888 rfl (lv_at hl 3 rfl) ?_
    refine lqL (r := 1) (c0 := ⟨nI T, er, nI nd, tp, fd, ee, oo, tt, rr, sw, hh, tx⟩) (c1 := ⟨nI T, er, nI nd, tp, fd, ee, oo, tt, rr, sw, hh, tx⟩) (m0 := ⟨v, nI T, er, th, nW g, nW a, nW u, nW sl, nW kp, nI mm, nW P0, nW L0, sn, pv, nW r0, gn, vd, nI nd, x1, x2, x3, x4, x5, x6, x7, txt, txd⟩) (o := o) (o1 := o) (As := [.ref (Z.ca 0), .ref Z.q]) (rest := []) C (c_L_undo l C.hl0 dC dI K Z.kI Z.kE Z.kL Z.ca Z.a Z.b Z.oa Z.ob Z.ra Z.sa Z.ha Z.ux Z.uy tx (nI T) er (nI nd) tp fd ee oo tt rr sw hh Z.q o H.size _ e1 1 o (Or.inr ⟨rfl, rfl, rfl⟩)) gL_law_L_undo qL_undo rfl ⟨(Nat.le_of_ble_eq_true rfl), (Nat.le_of_ble_eq_true rfl)⟩ ⟨rfl, rfl⟩ hP hD hS hl.1 rfl rfl (Nat.le_of_ble_eq_true rfl) dL_law_889 ⟨by omega, by omega⟩ (fun H locs hP hD hS => ?_)
    refine W.widen (k := cells + 8) (n := slots + 48) (by omega) (by omega) ?_
    refine lv_istore (lv' := [(5, .int 1), (0, .ref b), (1, .ref (Z.ca 0)), (2, .ref (Z.ma 0)), (3, .ref Z.q), (4, .int i)]) C.hx C.hb dL_law_892 hl (by decide) rfl (fun ls hl => ?_)
    refine lv_aload_n C.hx C.hb dL_law_894 rfl (lv_at hl 3 rfl) ?_
    refine lqMi (z := nI 0) (c0 := ⟨nI T, er, nI nd, tp, fd, ee, oo, tt, rr, sw, hh, tx⟩) (m0 := ⟨v, nI T, er, th, nW g, nW a, nW u, nW sl, nW kp, nI mm, nW P0, nW L0, sn, pv, nW r0, gn, vd, nI nd, x1, x2, x3, x4, x5, x6, x7, txt, txd⟩) (m1 := ⟨v, nI T, er, nI 1, nW g, nW a, nW u, nW sl, nW kp, nI mm, nW P0, nW L0, sn, pv, nW r0, gn, vd, nI nd, x1, x2, x3, x4, x5, x6, x7, txt, txd⟩) (o := o) (As := []) (rest := []) C (c_X8_undo fu l dC dI Z.kI Z.kB Z.kZ Z.ma v (nI T) er th (nW g) (nW a) (nW u) (nW sl) (nW kp) (nI mm) (nW P0) (nW L0) sn pv (nW r0) gn vd (nI nd) x1 x2 x3 x4 x5 x6 x7 txt txd H.size _ e2) gL_law_X8_undo qX8_undo rfl ⟨(Nat.le_of_ble_eq_true rfl), (Nat.le_of_ble_eq_true rfl)⟩ ⟨rfl, rfl⟩ hP hD hS hl.1 rfl rfl (Nat.le_of_ble_eq_true rfl) dL_law_895 ⟨by omega, by omega⟩ (fun H locs hP hD hS => ?_)
    refine lv_istore (lv' := [(6, .int (nI 0)), (5, .int 1), (0, .ref b), (1, .ref (Z.ca 0)), (2, .ref (Z.ma 0)), (3, .ref Z.q), (4, .int i)]) C.hx C.hb dL_law_898 hl (by decide) rfl (fun ls hl => ?_)
    refine lv_aload_n C.hx C.hb dL_law_900 rfl (lv_at hl 4 rfl) ?_
    refine lqMo (z := nI 1) (c0 := ⟨nI T, er, nI nd, tp, fd, ee, oo, tt, rr, sw, hh, tx⟩) (m0 := ⟨v, nI T, er, nI 1, nW g, nW a, nW u, nW sl, nW kp, nI mm, nW P0, nW L0, sn, pv, nW r0, gn, vd, nI nd, x1, x2, x3, x4, x5, x6, x7, txt, txd⟩) (o := o) (As := []) (rest := []) C (c_X8_thrown l dC dI Z.kI Z.kB Z.kZ Z.ma v (nI T) er (nI 1) (nW g) (nW a) (nW u) (nW sl) (nW kp) (nI mm) (nW P0) (nW L0) sn pv (nW r0) gn vd (nI nd) x1 x2 x3 x4 x5 x6 x7 txt txd (nI 1) rfl) gL_law_X8_thrown qX8_thrown rfl ⟨(Nat.le_of_ble_eq_true rfl), (Nat.le_of_ble_eq_true rfl)⟩ ⟨rfl, rfl⟩ hP hD hS hl.1 rfl rfl (Nat.le_of_ble_eq_true rfl) dL_law_901 ⟨by omega, by omega⟩ (fun H locs hP hD hS => ?_)
    refine lv_iload C.hx C.hb dL_law_904 (lv_at hl 1 rfl) ?_
    refine lv_icmp_eq (tgt := 911) C.hx C.hb dL_law_906 (by decide) (fun _ => ?_) (fun h9 => absurd (by first | rfl | decide) h9)
    refine lv_iload C.hx C.hb dL_law_911 (lv_at hl 1 rfl) ?_
    refine lv_if_ne (tgt := 928) C.hx C.hb dL_law_913 (by decide) (fun _ => ?_) (fun h9 => absurd h9 (by decide))
    refine lv_goto (tgt := 2318) C.hx C.hb dL_law_928 (by decide) ?_
    exact KK ⟨nI T, er, nI nd, tp, fd, ee, oo, tt, rr, sw, hh, tx⟩ ⟨v, nI T, er, nI 1, nW g, nW a, nW u, nW sl, nW kp, nI mm, nW P0, nW L0, sn, pv, nW r0, gn, vd, nI nd, x1, x2, x3, x4, x5, x6, x7, txt, txd⟩ o H locs ls ⟨T, er, nd, tp, fd, ee, oo, tt, rr, sw, hh, tx, v, nI 1, g, a, u, sl, kp, mm, P0, L0, sn, pv, r0, gn, vd, x1, x2, x3, x4, x5, x6, x7, txt, txd, bb, rfl, rfl, hTP, hDD, hST, hOF⟩ hP hD hS (lv_sub hl [2, 3, 4, 5, 6] rfl)
set_option maxHeartbeats 4000000 in
set_option maxRecDepth 100000 in
theorem lc_14 (C : LC p l s m args c A0 K dC dI Z b L xs) (hf : 20000 ≤ fu) (hR : REL c0 m0) (hP : va_P (dC, dI) vwCl (LW Z c0 m0 o) H) (hD : va_D A0 (LW Z c0 m0 o)) (hS : va_S A0 s.heap H locs) (hl : lv_has ls 9 [(0, .ref b), (1, .ref (Z.ca 0)), (2, .ref (Z.ma 0)), (3, .ref Z.q), (4, .int i)])  (hcl : cells + 8 ≤ room_1.cells ∧ slots + 48 ≤ room_1.slots) (KK : LKK p l e s m args below meth c (cells + 8) (slots + 48) Q A0 dC dI Z b i) : W p l e room_1 s m args below meth c H locs cells slots Q (F0 m 931 ls []) := by
  obtain ⟨hc1, hc2⟩ := hcl
  obtain ⟨T, er, nd, tp, fd, ee, oo, tt, rr, sw, hh, tx, v, th, g, a, u, sl, kp, mm, P0, L0, sn, pv, r0, gn, vd, x1, x2, x3, x4, x5, x6, x7, txt, txd, bb, rfl, rfl, hTP, hDD, hST, hOF⟩ := hR
  have hRE := hST.1
  have hG := hST.2.1
  obtain ⟨w, e1, e2⟩ := (t_looks0 fu hf th hRE hG).1
  refine lv_aload_n C.hx C.hb dL_law_931 rfl (lv_at hl 1 rfl) ?_
  refine lqRi (z := w) (c0 := ⟨nI T, er, nI nd, tp, fd, ee, oo, tt, rr, sw, hh, tx⟩) (m0 := ⟨v, nI T, er, th, nW g, nW a, nW u, nW sl, nW kp, nI mm, nW P0, nW L0, sn, pv, nW r0, gn, vd, nI nd, x1, x2, x3, x4, x5, x6, x7, txt, txd⟩) (o := o) (As := []) (rest := []) C (c_X7_alphabetSize l dC dI Z.kI Z.kE Z.ca Z.a Z.b Z.oa Z.ob Z.ra Z.sa Z.ha Z.ux Z.uy tx (nI T) er (nI nd) tp fd ee oo tt rr sw hh _ e1) gL_law_X7_alphabetSize qX7_alphabetSize rfl ⟨(Nat.le_of_ble_eq_true rfl), (Nat.le_of_ble_eq_true rfl)⟩ ⟨rfl, rfl⟩ hP hD hS hl.1 rfl rfl (Nat.le_of_ble_eq_true rfl) dL_law_932 ⟨by omega, by omega⟩ (fun H locs hP hD hS => ?_)
  refine lv_aload_n C.hx C.hb dL_law_935 rfl (lv_at hl 2 rfl) ?_
  refine lqMi (z := w) (c0 := ⟨nI T, er, nI nd, tp, fd, ee, oo, tt, rr, sw, hh, tx⟩) (m0 := ⟨v, nI T, er, th, nW g, nW a, nW u, nW sl, nW kp, nI mm, nW P0, nW L0, sn, pv, nW r0, gn, vd, nI nd, x1, x2, x3, x4, x5, x6, x7, txt, txd⟩) (m1 := ⟨v, nI T, er, nI 0, nW g, nW a, nW u, nW sl, nW kp, nI mm, nW P0, nW L0, sn, pv, nW r0, gn, vd, nI nd, x1, x2, x3, x4, x5, x6, x7, txt, txd⟩) (o := o) (As := []) (rest := [.int w]) C (c_X8_alphabetSize l dC dI Z.kI Z.kB Z.kZ Z.ma v (nI T) er th (nW g) (nW a) (nW u) (nW sl) (nW kp) (nI mm) (nW P0) (nW L0) sn pv (nW r0) gn vd (nI nd) x1 x2 x3 x4 x5 x6 x7 txt txd H.size _ e2) gL_law_X8_alphabetSize qX8_alphabetSize rfl ⟨(Nat.le_of_ble_eq_true rfl), (Nat.le_of_ble_eq_true rfl)⟩ ⟨rfl, rfl⟩ hP hD hS hl.1 rfl rfl (Nat.le_of_ble_eq_true rfl) dL_law_936 ⟨by omega, by omega⟩ (fun H locs hP hD hS => ?_)
  refine lv_icmp_eq (tgt := 2318) C.hx C.hb dL_law_939 (by decide) (fun _ => ?_) (fun h9 => absurd (by first | rfl | decide) h9)
  refine W.widen (k := cells + 8) (n := slots + 48) (by omega) (by omega) ?_
  exact KK ⟨nI T, er, nI nd, tp, fd, ee, oo, tt, rr, sw, hh, tx⟩ ⟨v, nI T, er, nI 0, nW g, nW a, nW u, nW sl, nW kp, nI mm, nW P0, nW L0, sn, pv, nW r0, gn, vd, nI nd, x1, x2, x3, x4, x5, x6, x7, txt, txd⟩ o H locs ls ⟨T, er, nd, tp, fd, ee, oo, tt, rr, sw, hh, tx, v, nI 0, g, a, u, sl, kp, mm, P0, L0, sn, pv, r0, gn, vd, x1, x2, x3, x4, x5, x6, x7, txt, txd, bb, rfl, rfl, hTP, hDD, hST, hOF⟩ hP hD hS (lv_sub hl [0, 1, 2, 3, 4] rfl)
end LCASES0
