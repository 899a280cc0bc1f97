section LCASES2
variable {p : Program} {l : Launch} {e : Env} {s : State} {m : MethodId} {args : Array Value} {below : List Frame} {meth : Method} {c : Code} {H : Heap} {locs : List Loc} {cells slots : Nat} {Q : State → Prop}
variable {ls : Array Slot} {A0 : Nat → Prop} {K : KT} {dC : Nat → ClassId} {dI : Nat → Nat → Nat} {Z : AD} {b L : Nat} {xs : Nat → Int32} {c0 : CS} {m0 : MS} {o : Nat → Int64} {i : Int32} {fu : Nat}
set_option maxHeartbeats 4000000 in
set_option maxRecDepth 100000 in
theorem lc_30 (C : LC p l s m args c A0 K dC dI Z b L xs) (hf : 20000 ≤ fu) (hR : REL c0 m0) (hP : va_P (dC, dI) vwCl (LW Z c0 m0 o) H) (hD : va_D A0 (LW Z c0 m0 o)) (hS : va_S A0 s.heap H locs) (hl : lv_has ls 9 [(0, .ref b), (1, .ref (Z.ca 0)), (2, .ref (Z.ma 0)), (3, .ref Z.q), (4, .int i)]) (hi1 : vp_in (i + 1) L) (hcl : cells + 8 ≤ room_1.cells ∧ slots + 48 ≤ room_1.slots) (KK : LKK p l e s m args below meth c (cells + 8) (slots + 48) Q A0 dC dI Z b i) : W p l e room_1 s m args below meth c H locs cells slots Q (F0 m 1378 ls []) := by
  obtain ⟨hc1, hc2⟩ := hcl
  obtain ⟨T, er, nd, tp, fd, ee, oo, tt, rr, sw, hh, tx, v, th, g, a, u, sl, kp, mm, P0, L0, sn, pv, r0, gn, vd, x1, x2, x3, x4, x5, x6, x7, txt, txd, bb, rfl, rfl, hTP, hDD, hST, hOF⟩ := hR
  have hRE := hST.1
  have hG := hST.2.1
  rcases t_usesOf fu hf th hRE hG tp fd oo tt rr sw hh (xs (i + 1).toNatClampNeg) with ⟨w, e1, e2⟩ | ⟨e1, e2⟩
  · refine lv_aload_n C.hx C.hb dL_law_1378 rfl (lv_at hl 1 rfl) ?_
    refine lv_aload_n C.hx C.hb dL_law_1379 rfl (lv_at hl 0 rfl) ?_
    refine lv_iload C.hx C.hb dL_law_1380 (lv_at hl 4 rfl) ?_
    refine lv_iconst (v := 1) C.hx C.hb dL_law_1382 (by decide) ?_
    refine lv_iadd C.hx C.hb dL_law_1383 ?_
    refine lq_x C hS hi1 dL_law_1384 ?_
    refine lv_aload_n C.hx C.hb dL_law_1385 rfl (lv_at hl 3 rfl) ?_
    refine lqL (r := 0) (c0 := ⟨nI T, er, nI nd, tp, fd, ee, oo, tt, rr, sw, hh, tx⟩) (c1 := ⟨nI T, er, nI nd, tp, fd, ee, oo, tt, rr, sw, hh, tx⟩) (m0 := ⟨v, nI T, er, th, nW g, nW a, nW u, nW sl, nW kp, nI mm, nW P0, nW L0, sn, pv, nW r0, gn, vd, nI nd, x1, x2, x3, x4, x5, x6, x7, txt, txd⟩) (o := o) (o1 := (vp_updL o 0 w.toInt64)) (As := [.ref (Z.ca 0), .int (xs (i + 1).toNatClampNeg), .ref Z.q]) (rest := []) C (c_L_usesOf fu l C.hl0 dC dI K Z.kI Z.kE Z.kL Z.ca Z.a Z.b Z.oa Z.ob Z.ra Z.sa Z.ha Z.ux Z.uy tx (nI T) er (nI nd) tp fd ee oo tt rr sw hh (xs (i + 1).toNatClampNeg) Z.q o H.size _ e1 0 (vp_updL o 0 w.toInt64) (Or.inl ⟨w, rfl, rfl, rfl⟩)) gL_law_L_usesOf qL_usesOf rfl ⟨(Nat.le_of_ble_eq_true rfl), (Nat.le_of_ble_eq_true rfl)⟩ ⟨rfl, rfl⟩ hP hD hS hl.1 rfl rfl (Nat.le_of_ble_eq_true rfl) dL_law_1386 ⟨by omega, by omega⟩ (fun H locs hP hD hS => ?_)
    refine W.widen (k := cells + 8) (n := slots + 48) (by omega) (by omega) ?_
    refine lv_istore (lv' := [(5, .int 0), (0, .ref b), (1, .ref (Z.ca 0)), (2, .ref (Z.ma 0)), (3, .ref Z.q), (4, .int i)]) C.hx C.hb dL_law_1389 hl (by decide) rfl (fun ls hl => ?_)
    refine lv_aload_n C.hx C.hb dL_law_1391 rfl (lv_at hl 3 rfl) ?_
    refine lv_aload_n C.hx C.hb dL_law_1392 rfl (lv_at hl 1 rfl) ?_
    refine lv_iload C.hx C.hb dL_law_1393 (lv_at hl 5 rfl) ?_
    refine lv_iconst (v := 1) C.hx C.hb dL_law_1395 (by decide) ?_
    refine lv_iadd C.hx C.hb dL_law_1396 ?_
    refine lq_x C hS hi1 dL_law_1397 ?_
    refine lqMi (z := w) (c0 := ⟨nI T, er, nI nd, tp, fd, ee, oo, tt, rr, sw, hh, tx⟩) (m0 := ⟨v, nI T, er, th, nW g, nW a, nW u, nW sl, nW kp, nI mm, nW P0, nW L0, sn, pv, nW r0, gn, vd, nI nd, x1, x2, x3, x4, x5, x6, x7, txt, txd⟩) (m1 := ⟨v, nI T, er, nI 0, nW g, nW a, nW u, nW sl, nW kp, nI mm, nW P0, nW L0, sn, pv, nW r0, gn, vd, nI nd, x1, x2, x3, x4, x5, x6, x7, txt, txd⟩) (o := (vp_updL o 0 w.toInt64)) (As := [.int (xs (i + 1).toNatClampNeg)]) (rest := []) C (c_X8_usesOf fu l dC dI Z.kI Z.kB Z.kZ Z.ma v (nI T) er th (nW g) (nW a) (nW u) (nW sl) (nW kp) (nI mm) (nW P0) (nW L0) sn pv (nW r0) gn vd (nI nd) x1 x2 x3 x4 x5 x6 x7 txt txd (xs (i + 1).toNatClampNeg) H.size _ e2) gL_law_X8_usesOf qX8_usesOf rfl ⟨(Nat.le_of_ble_eq_true rfl), (Nat.le_of_ble_eq_true rfl)⟩ ⟨rfl, rfl⟩ hP hD hS hl.1 rfl rfl (Nat.le_of_ble_eq_true rfl) dL_law_1398 ⟨by omega, by omega⟩ (fun H locs hP hD hS => ?_)
    refine lv_istore (lv' := [(6, .int w), (5, .int 0), (0, .ref b), (1, .ref (Z.ca 0)), (2, .ref (Z.ma 0)), (3, .ref Z.q), (4, .int i)]) C.hx C.hb dL_law_1401 hl (by decide) rfl (fun ls hl => ?_)
    refine lv_aload_n C.hx C.hb dL_law_1403 rfl (lv_at hl 4 rfl) ?_
    refine lqMo (z := nI 0) (c0 := ⟨nI T, er, nI nd, tp, fd, ee, oo, tt, rr, sw, hh, tx⟩) (m0 := ⟨v, nI T, er, nI 0, nW g, nW a, nW u, nW sl, nW kp, nI mm, nW P0, nW L0, sn, pv, nW r0, gn, vd, nI nd, x1, x2, x3, x4, x5, x6, x7, txt, txd⟩) (o := (vp_updL o 0 w.toInt64)) (As := []) (rest := []) C (c_X8_thrown l dC dI Z.kI Z.kB Z.kZ Z.ma v (nI T) er (nI 0) (nW g) (nW a) (nW u) (nW sl) (nW kp) (nI mm) (nW P0) (nW L0) sn pv (nW r0) gn vd (nI nd) x1 x2 x3 x4 x5 x6 x7 txt txd (nI 0) rfl) gL_law_X8_thrown qX8_thrown rfl ⟨(Nat.le_of_ble_eq_true rfl), (Nat.le_of_ble_eq_true rfl)⟩ ⟨rfl, rfl⟩ hP hD hS hl.1 rfl rfl (Nat.le_of_ble_eq_true rfl) dL_law_1404 ⟨by omega, by omega⟩ (fun H locs hP hD hS => ?_)
    refine lv_iload C.hx C.hb dL_law_1407 (lv_at hl 1 rfl) ?_
    refine lv_icmp_eq (tgt := 1414) C.hx C.hb dL_law_1409 (by decide) (fun _ => ?_) (fun h9 => absurd (by first | rfl | decide) h9)
    refine lv_iload C.hx C.hb dL_law_1414 (lv_at hl 1 rfl) ?_
    refine lv_if_ne (tgt := 1431) C.hx C.hb dL_law_1416 (by decide) (fun h9 => absurd rfl h9) (fun _ => ?_)
    refine lv_aload_n C.hx C.hb dL_law_1419 rfl (lv_at hl 5 rfl) ?_
    refine lv_iconst (v := 0) C.hx C.hb dL_law_1420 (by decide) ?_
    refine lq_o C hP dL_law_1421 ?_
    refine lv_iload C.hx C.hb dL_law_1422 (lv_at hl 0 rfl) ?_
    refine lv_i2l (v := w.toInt64) C.hx C.hb dL_law_1424 rfl ?_
    refine W.lcmp C.hx C.hb dL_law_1425 ?_
    refine lv_if_eq (tgt := 1431) C.hx C.hb dL_law_1426 (by decide) (fun _ => ?_) (fun h9 => absurd (cmp_self _) h9)
    refine lv_goto (tgt := 2318) C.hx C.hb dL_law_1431 (by decide) ?_
    exact KK ⟨nI T, er, nI nd, tp, fd, ee, oo, tt, rr, sw, hh, tx⟩ ⟨v, nI T, er, nI 0, nW g, nW a, nW u, nW sl, nW kp, nI mm, nW P0, nW L0, sn, pv, nW r0, gn, vd, nI nd, x1, x2, x3, x4, x5, x6, x7, txt, txd⟩ (vp_updL o 0 w.toInt64) H locs ls ⟨T, er, nd, tp, fd, ee, oo, tt, rr, sw, hh, tx, v, nI 0, g, a, u, sl, kp, mm, P0, L0, sn, pv, r0, gn, vd, x1, x2, x3, x4, x5, x6, x7, txt, txd, bb, rfl, rfl, hTP, hDD, hST, hOF⟩ hP hD hS (lv_sub hl [2, 3, 4, 5, 6] rfl)
  · refine lv_aload_n C.hx C.hb dL_law_1378 rfl (lv_at hl 1 rfl) ?_
    refine lv_aload_n C.hx C.hb dL_law_1379 rfl (lv_at hl 0 rfl) ?_
    refine lv_iload C.hx C.hb dL_law_1380 (lv_at hl 4 rfl) ?_
    refine lv_iconst (v := 1) C.hx C.hb dL_law_1382 (by decide) ?_
    refine lv_iadd C.hx C.hb dL_law_1383 ?_
    refine lq_x C hS hi1 dL_law_1384 ?_
    refine lv_aload_n C.hx C.hb dL_law_1385 rfl (lv_at hl 3 rfl) ?_
    refine lqL (r := 1) (c0 := ⟨nI T, er, nI nd, tp, fd, ee, oo, tt, rr, sw, hh, tx⟩) (c1 := ⟨nI T, er, nI nd, tp, fd, ee, oo, tt, rr, sw, hh, tx⟩) (m0 := ⟨v, nI T, er, th, nW g, nW a, nW u, nW sl, nW kp, nI mm, nW P0, nW L0, sn, pv, nW r0, gn, vd, nI nd, x1, x2, x3, x4, x5, x6, x7, txt, txd⟩) (o := o) (o1 := o) (As := [.ref (Z.ca 0), .int (xs (i + 1).toNatClampNeg), .ref Z.q]) (rest := []) C (c_L_usesOf fu l C.hl0 dC dI K Z.kI Z.kE Z.kL Z.ca Z.a Z.b Z.oa Z.ob Z.ra Z.sa Z.ha Z.ux Z.uy tx (nI T) er (nI nd) tp fd ee oo tt rr sw hh (xs (i + 1).toNatClampNeg) Z.q o H.size _ e1 1 o (Or.inr ⟨rfl, rfl, rfl⟩)) gL_law_L_usesOf qL_usesOf rfl ⟨(Nat.le_of_ble_eq_true rfl), (Nat.le_of_ble_eq_true rfl)⟩ ⟨rfl, rfl⟩ hP hD hS hl.1 rfl rfl (Nat.le_of_ble_eq_true rfl) dL_law_1386 ⟨by omega, by omega⟩ (fun H locs hP hD hS => ?_)
    refine W.widen (k := cells + 8) (n := slots + 48) (by omega) (by omega) ?_
    refine lv_istore (lv' := [(5, .int 1), (0, .ref b), (1, .ref (Z.ca 0)), (2, .ref (Z.ma 0)), (3, .ref Z.q), (4, .int i)]) C.hx C.hb dL_law_1389 hl (by decide) rfl (fun ls hl => ?_)
    refine lv_aload_n C.hx C.hb dL_law_1391 rfl (lv_at hl 3 rfl) ?_
    refine lv_aload_n C.hx C.hb dL_law_1392 rfl (lv_at hl 1 rfl) ?_
    refine lv_iload C.hx C.hb dL_law_1393 (lv_at hl 5 rfl) ?_
    refine lv_iconst (v := 1) C.hx C.hb dL_law_1395 (by decide) ?_
    refine lv_iadd C.hx C.hb dL_law_1396 ?_
    refine lq_x C hS hi1 dL_law_1397 ?_
    refine lqMi (z := nI 0) (c0 := ⟨nI T, er, nI nd, tp, fd, ee, oo, tt, rr, sw, hh, tx⟩) (m0 := ⟨v, nI T, er, th, nW g, nW a, nW u, nW sl, nW kp, nI mm, nW P0, nW L0, sn, pv, nW r0, gn, vd, nI nd, x1, x2, x3, x4, x5, x6, x7, txt, txd⟩) (m1 := ⟨v, nI T, er, nI 1, nW g, nW a, nW u, nW sl, nW kp, nI mm, nW P0, nW L0, sn, pv, nW r0, gn, vd, nI nd, x1, x2, x3, x4, x5, x6, x7, txt, txd⟩) (o := o) (As := [.int (xs (i + 1).toNatClampNeg)]) (rest := []) C (c_X8_usesOf fu l dC dI Z.kI Z.kB Z.kZ Z.ma v (nI T) er th (nW g) (nW a) (nW u) (nW sl) (nW kp) (nI mm) (nW P0) (nW L0) sn pv (nW r0) gn vd (nI nd) x1 x2 x3 x4 x5 x6 x7 txt txd (xs (i + 1).toNatClampNeg) H.size _ e2) gL_law_X8_usesOf qX8_usesOf rfl ⟨(Nat.le_of_ble_eq_true rfl), (Nat.le_of_ble_eq_true rfl)⟩ ⟨rfl, rfl⟩ hP hD hS hl.1 rfl rfl (Nat.le_of_ble_eq_true rfl) dL_law_1398 ⟨by omega, by omega⟩ (fun H locs hP hD hS => ?_)
    refine lv_istore (lv' := [(6, .int (nI 0)), (5, .int 1), (0, .ref b), (1, .ref (Z.ca 0)), (2, .ref (Z.ma 0)), (3, .ref Z.q), (4, .int i)]) C.hx C.hb dL_law_1401 hl (by decide) rfl (fun ls hl => ?_)
    refine lv_aload_n C.hx C.hb dL_law_1403 rfl (lv_at hl 4 rfl) ?_
    refine lqMo (z := nI 1) (c0 := ⟨nI T, er, nI nd, tp, fd, ee, oo, tt, rr, sw, hh, tx⟩) (m0 := ⟨v, nI T, er, nI 1, nW g, nW a, nW u, nW sl, nW kp, nI mm, nW P0, nW L0, sn, pv, nW r0, gn, vd, nI nd, x1, x2, x3, x4, x5, x6, x7, txt, txd⟩) (o := o) (As := []) (rest := []) C (c_X8_thrown l dC dI Z.kI Z.kB Z.kZ Z.ma v (nI T) er (nI 1) (nW g) (nW a) (nW u) (nW sl) (nW kp) (nI mm) (nW P0) (nW L0) sn pv (nW r0) gn vd (nI nd) x1 x2 x3 x4 x5 x6 x7 txt txd (nI 1) rfl) gL_law_X8_thrown qX8_thrown rfl ⟨(Nat.le_of_ble_eq_true rfl), (Nat.le_of_ble_eq_true rfl)⟩ ⟨rfl, rfl⟩ hP hD hS hl.1 rfl rfl (Nat.le_of_ble_eq_true rfl) dL_law_1404 ⟨by omega, by omega⟩ (fun H locs hP hD hS => ?_)
    refine lv_iload C.hx C.hb dL_law_1407 (lv_at hl 1 rfl) ?_
    refine lv_icmp_eq (tgt := 1414) C.hx C.hb dL_law_1409 (by decide) (fun _ => ?_) (fun h9 => absurd (by first | rfl | decide) h9)
    refine lv_iload C.hx C.hb dL_law_1414 (lv_at hl 1 rfl) ?_
    refine lv_if_ne (tgt := 1431) C.hx C.hb dL_law_1416 (by decide) (fun _ => ?_) (fun h9 => absurd h9 (by decide))
    refine lv_goto (tgt := 2318) C.hx C.hb dL_law_1431 (by decide) ?_
    exact KK ⟨nI T, er, nI nd, tp, fd, ee, oo, tt, rr, sw, hh, tx⟩ ⟨v, nI T, er, nI 1, nW g, nW a, nW u, nW sl, nW kp, nI mm, nW P0, nW L0, sn, pv, nW r0, gn, vd, nI nd, x1, x2, x3, x4, x5, x6, x7, txt, txd⟩ o H locs ls ⟨T, er, nd, tp, fd, ee, oo, tt, rr, sw, hh, tx, v, nI 1, g, a, u, sl, kp, mm, P0, L0, sn, pv, r0, gn, vd, x1, x2, x3, x4, x5, x6, x7, txt, txd, bb, rfl, rfl, hTP, hDD, hST, hOF⟩ hP hD hS (lv_sub hl [2, 3, 4, 5, 6] rfl)
set_option maxHeartbeats 4000000 in
set_option maxRecDepth 100000 in
theorem lc_31 (C : LC p l s m args c A0 K dC dI Z b L xs) (hf : 20000 ≤ fu) (hR : REL c0 m0) (hP : va_P (dC, dI) vwCl (LW Z c0 m0 o) H) (hD : va_D A0 (LW Z c0 m0 o)) (hS : va_S A0 s.heap H locs) (hl : lv_has ls 9 [(0, .ref b), (1, .ref (Z.ca 0)), (2, .ref (Z.ma 0)), (3, .ref Z.q), (4, .int i)])  (hcl : cells + 8 ≤ room_1.cells ∧ slots + 48 ≤ room_1.slots) (KK : LKK p l e s m args below meth c (cells + 8) (slots + 48) Q A0 dC dI Z b i) : W p l e room_1 s m args below meth c H locs cells slots Q (F0 m 1434 ls []) := by
  obtain ⟨hc1, hc2⟩ := hcl
  obtain ⟨T, er, nd, tp, fd, ee, oo, tt, rr, sw, hh, tx, v, th, g, a, u, sl, kp, mm, P0, L0, sn, pv, r0, gn, vd, x1, x2, x3, x4, x5, x6, x7, txt, txd, bb, rfl, rfl, hTP, hDD, hST, hOF⟩ := hR
  have hRE := hST.1
  have hG := hST.2.1
  rcases t_findTape fu hf th hRE hG hTP fd oo tt rr sw hh with ⟨w, e1, e2⟩ | ⟨e1, e2⟩
  · refine lv_aload_n C.hx C.hb dL_law_1434 rfl (lv_at hl 1 rfl) ?_
    refine lv_aload_n C.hx C.hb dL_law_1435 rfl (lv_at hl 3 rfl) ?_
    refine lqL (r := 0) (c0 := ⟨nI T, er, nI nd, tp, fd, ee, oo, tt, rr, sw, hh, tx⟩) (c1 := ⟨nI T, er, nI nd, tp, fd, ee, oo, tt, rr, sw, hh, tx⟩) (m0 := ⟨v, nI T, er, th, nW g, nW a, nW u, nW sl, nW kp, nI mm, nW P0, nW L0, sn, pv, nW r0, gn, vd, nI nd, x1, x2, x3, x4, x5, x6, x7, txt, txd⟩) (o := o) (o1 := (vp_updL o 0 w.toInt64)) (As := [.ref (Z.ca 0), .ref Z.q]) (rest := []) C (c_L_findTape fu l C.hl0 dC dI K Z.kI Z.kE Z.kL Z.ca Z.a Z.b Z.oa Z.ob Z.ra Z.sa Z.ha Z.ux Z.uy tx (nI T) er (nI nd) tp fd ee oo tt rr sw hh Z.q o H.size _ e1 0 (vp_updL o 0 w.toInt64) (Or.inl ⟨w, rfl, rfl, rfl⟩)) gL_law_L_findTape qL_findTape rfl ⟨(Nat.le_of_ble_eq_true rfl), (Nat.le_of_ble_eq_true rfl)⟩ ⟨rfl, rfl⟩ hP hD hS hl.1 rfl rfl (Nat.le_of_ble_eq_true rfl) dL_law_1436 ⟨by omega, by omega⟩ (fun H locs hP hD hS => ?_)
    refine W.widen (k := cells + 8) (n := slots + 48) (by omega) (by omega) ?_
    refine lv_istore (lv' := [(5, .int 0), (0, .ref b), (1, .ref (Z.ca 0)), (2, .ref (Z.ma 0)), (3, .ref Z.q), (4, .int i)]) C.hx C.hb dL_law_1439 hl (by decide) rfl (fun ls hl => ?_)
    refine lv_aload_n C.hx C.hb dL_law_1441 rfl (lv_at hl 3 rfl) ?_
    refine lqMi (z := w) (c0 := ⟨nI T, er, nI nd, tp, fd, ee, oo, tt, rr, sw, hh, tx⟩) (m0 := ⟨v, nI T, er, th, nW g, nW a, nW u, nW sl, nW kp, nI mm, nW P0, nW L0, sn, pv, nW r0, gn, vd, nI nd, x1, x2, x3, x4, x5, x6, x7, txt, txd⟩) (m1 := ⟨v, nI T, er, nI 0, nW g, nW a, nW u, nW sl, nW kp, nI mm, nW P0, nW L0, sn, pv, nW r0, gn, vd, nI nd, x1, x2, x3, x4, x5, x6, x7, txt, txd⟩) (o := (vp_updL o 0 w.toInt64)) (As := []) (rest := []) C (c_X8_findTape fu l dC dI Z.kI Z.kB Z.kZ Z.ma v (nI T) er th (nW g) (nW a) (nW u) (nW sl) (nW kp) (nI mm) (nW P0) (nW L0) sn pv (nW r0) gn vd (nI nd) x1 x2 x3 x4 x5 x6 x7 txt txd H.size _ e2) gL_law_X8_findTape qX8_findTape rfl ⟨(Nat.le_of_ble_eq_true rfl), (Nat.le_of_ble_eq_true rfl)⟩ ⟨rfl, rfl⟩ hP hD hS hl.1 rfl rfl (Nat.le_of_ble_eq_true rfl) dL_law_1442 ⟨by omega, by omega⟩ (fun H locs hP hD hS => ?_)
    refine lv_istore (lv' := [(6, .int w), (5, .int 0), (0, .ref b), (1, .ref (Z.ca 0)), (2, .ref (Z.ma 0)), (3, .ref Z.q), (4, .int i)]) C.hx C.hb dL_law_1445 hl (by decide) rfl (fun ls hl => ?_)
    refine lv_aload_n C.hx C.hb dL_law_1447 rfl (lv_at hl 4 rfl) ?_
    refine lqMo (z := nI 0) (c0 := ⟨nI T, er, nI nd, tp, fd, ee, oo, tt, rr, sw, hh, tx⟩) (m0 := ⟨v, nI T, er, nI 0, nW g, nW a, nW u, nW sl, nW kp, nI mm, nW P0, nW L0, sn, pv, nW r0, gn, vd, nI nd, x1, x2, x3, x4, x5, x6, x7, txt, txd⟩) (o := (vp_updL o 0 w.toInt64)) (As := []) (rest := []) C (c_X8_thrown l dC dI Z.kI Z.kB Z.kZ Z.ma v (nI T) er (nI 0) (nW g) (nW a) (nW u) (nW sl) (nW kp) (nI mm) (nW P0) (nW L0) sn pv (nW r0) gn vd (nI nd) x1 x2 x3 x4 x5 x6 x7 txt txd (nI 0) rfl) gL_law_X8_thrown qX8_thrown rfl ⟨(Nat.le_of_ble_eq_true rfl), (Nat.le_of_ble_eq_true rfl)⟩ ⟨rfl, rfl⟩ hP hD hS hl.1 rfl rfl (Nat.le_of_ble_eq_true rfl) dL_law_1448 ⟨by omega, by omega⟩ (fun H locs hP hD hS => ?_)
    refine lv_iload C.hx C.hb dL_law_1451 (lv_at hl 1 rfl) ?_
    refine lv_icmp_eq (tgt := 1458) C.hx C.hb dL_law_1453 (by decide) (fun _ => ?_) (fun h9 => absurd (by first | rfl | decide) h9)
    refine lv_iload C.hx C.hb dL_law_1458 (lv_at hl 1 rfl) ?_
    refine lv_if_ne (tgt := 1475) C.hx C.hb dL_law_1460 (by decide) (fun h9 => absurd rfl h9) (fun _ => ?_)
    refine lv_aload_n C.hx C.hb dL_law_1463 rfl (lv_at hl 5 rfl) ?_
    refine lv_iconst (v := 0) C.hx C.hb dL_law_1464 (by decide) ?_
    refine lq_o C hP dL_law_1465 ?_
    refine lv_iload C.hx C.hb dL_law_1466 (lv_at hl 0 rfl) ?_
    refine lv_i2l (v := w.toInt64) C.hx C.hb dL_law_1468 rfl ?_
    refine W.lcmp C.hx C.hb dL_law_1469 ?_
    refine lv_if_eq (tgt := 1475) C.hx C.hb dL_law_1470 (by decide) (fun _ => ?_) (fun h9 => absurd (cmp_self _) h9)
    refine lv_goto (tgt := 2318) C.hx C.hb dL_law_1475 (by decide) ?_
    exact KK ⟨nI T, er, nI nd, tp, fd, ee, oo, tt, rr, sw, hh, tx⟩ ⟨v, nI T, er, nI 0, nW g, nW a, nW u, nW sl, nW kp, nI mm, nW P0, nW L0, sn, pv, nW r0, gn, vd, nI nd, x1, x2, x3, x4, x5, x6, x7, txt, txd⟩ (vp_updL o 0 w.toInt64) H locs ls ⟨T, er, nd, tp, fd, ee, oo, tt, rr, sw, hh, tx, v, nI 0, g, a, u, sl, kp, mm, P0, L0, sn, pv, r0, gn, vd, x1, x2, x3, x4, x5, x6, x7, txt, txd, bb, rfl, rfl, hTP, hDD, hST, hOF⟩ hP hD hS (lv_sub hl [2, 3, 4, 5, 6] rfl)
  · refine lv_aload_n C.hx C.hb dL_law_1434 rfl (lv_at hl 1 rfl) ?_
    refine lv_aload_n C.hx C.hb dL_law_1435 rfl (lv_at hl 3 rfl) ?_
    refine lqL (r := 1) (c0 := ⟨nI T, er, nI nd, tp, fd, ee, oo, tt, rr, sw, hh, tx⟩) (c1 := ⟨nI T, er, nI nd, tp, fd, ee, oo, tt, rr, sw, hh, tx⟩) (m0 := ⟨v, nI T, er, th, nW g, nW a, nW u, nW sl, nW kp, nI mm, nW P0, nW L0, sn, pv, nW r0, gn, vd, nI nd, x1, x2, x3, x4, x5, x6, x7, txt, txd⟩) (o := o) (o1 := o) (As := [.ref (Z.ca 0), .ref Z.q]) (rest := []) C (c_L_findTape fu l C.hl0 dC dI K Z.kI Z.kE Z.kL Z.ca Z.a Z.b Z.oa Z.ob Z.ra Z.sa Z.ha Z.ux Z.uy tx (nI T) er (nI nd) tp fd ee oo tt rr sw hh Z.q o H.size _ e1 1 o (Or.inr ⟨rfl, rfl, rfl⟩)) gL_law_L_findTape qL_findTape rfl ⟨(Nat.le_of_ble_eq_true rfl), (Nat.le_of_ble_eq_true rfl)⟩ ⟨rfl, rfl⟩ hP hD hS hl.1 rfl rfl (Nat.le_of_ble_eq_true rfl) dL_law_1436 ⟨by omega, by omega⟩ (fun H locs hP hD hS => ?_)
    refine W.widen (k := cells + 8) (n := slots + 48) (by omega) (by omega) ?_
    refine lv_istore (lv' := [(5, .int 1), (0, .ref b), (1, .ref (Z.ca 0)), (2, .ref (Z.ma 0)), (3, .ref Z.q), (4, .int i)]) C.hx C.hb dL_law_1439 hl (by decide) rfl (fun ls hl => ?_)
    refine lv_aload_n C.hx C.hb dL_law_1441 rfl (lv_at hl 3 rfl) ?_
    refine lqMi (z := nI 0) (c0 := ⟨nI T, er, nI nd, tp, fd, ee, oo, tt, rr, sw, hh, tx⟩) (m0 := ⟨v, nI T, er, th, nW g, nW a, nW u, nW sl, nW kp, nI mm, nW P0, nW L0, sn, pv, nW r0, gn, vd, nI nd, x1, x2, x3, x4, x5, x6, x7, txt, txd⟩) (m1 := ⟨v, nI T, er, nI 1, nW g, nW a, nW u, nW sl, nW kp, nI mm, nW P0, nW L0, sn, pv, nW r0, gn, vd, nI nd, x1, x2, x3, x4, x5, x6, x7, txt, txd⟩) (o := o) (As := []) (rest := []) C (c_X8_findTape fu l dC dI Z.kI Z.kB Z.kZ Z.ma v (nI T) er th (nW g) (nW a) (nW u) (nW sl) (nW kp) (nI mm) (nW P0) (nW L0) sn pv (nW r0) gn vd (nI nd) x1 x2 x3 x4 x5 x6 x7 txt txd H.size _ e2) gL_law_X8_findTape qX8_findTape rfl ⟨(Nat.le_of_ble_eq_true rfl), (Nat.le_of_ble_eq_true rfl)⟩ ⟨rfl, rfl⟩ hP hD hS hl.1 rfl rfl (Nat.le_of_ble_eq_true rfl) dL_law_1442 ⟨by omega, by omega⟩ (fun H locs hP hD hS => ?_)
    refine lv_istore (lv' := [(6, .int (nI 0)), (5, .int 1), (0, .ref b), (1, .ref (Z.ca 0)), (2, .ref (Z.ma 0)), (3, .ref Z.q), (4, .int i)]) C.hx C.hb dL_law_1445 hl (by decide) rfl (fun ls hl => ?_)
    refine lv_aload_n C.hx C.hb dL_law_1447 rfl (lv_at hl 4 rfl) ?_
    refine lqMo (z := nI 1) (c0 := ⟨nI T, er, nI nd, tp, fd, ee, oo, tt, rr, sw, hh, tx⟩) (m0 := ⟨v, nI T, er, nI 1, nW g, nW a, nW u, nW sl, nW kp, nI mm, nW P0, nW L0, sn, pv, nW r0, gn, vd, nI nd, x1, x2, x3, x4, x5, x6, x7, txt, txd⟩) (o := o) (As := []) (rest := []) C (c_X8_thrown l dC dI Z.kI Z.kB Z.kZ Z.ma v (nI T) er (nI 1) (nW g) (nW a) (nW u) (nW sl) (nW kp) (nI mm) (nW P0) (nW L0) sn pv (nW r0) gn vd (nI nd) x1 x2 x3 x4 x5 x6 x7 txt txd (nI 1) rfl) gL_law_X8_thrown qX8_thrown rfl ⟨(Nat.le_of_ble_eq_true rfl), (Nat.le_of_ble_eq_true rfl)⟩ ⟨rfl, rfl⟩ hP hD hS hl.1 rfl rfl (Nat.le_of_ble_eq_true rfl) dL_law_1448 ⟨by omega, by omega⟩ (fun H locs hP hD hS => ?_)
    refine lv_iload C.hx C.hb dL_law_1451 (lv_at hl 1 rfl) ?_
    refine lv_icmp_eq (tgt := 1458) C.hx C.hb dL_law_1453 (by decide) (fun _ => ?_) (fun h9 => absurd (by first | rfl | decide) h9)
    refine lv_iload C.hx C.hb dL_law_1458 (lv_at hl 1 rfl) ?_
    refine lv_if_ne (tgt := 1475) C.hx C.hb dL_law_1460 (by decide) (fun _ => ?_) (fun h9 => absurd h9 (by decide))
    refine lv_goto (tgt := 2318) C.hx C.hb dL_law_1475 (by decide) ?_
    exact KK ⟨nI T, er, nI nd, tp, fd, ee, oo, tt, rr, sw, hh, tx⟩ ⟨v, nI T, er, nI 1, nW g, nW a, nW u, nW sl, nW kp, nI mm, nW P0, nW L0, sn, pv, nW r0, gn, vd, nI nd, x1, x2, x3, x4, x5, x6, x7, txt, txd⟩ o H locs ls ⟨T, er, nd, tp, fd, ee, oo, tt, rr, sw, hh, tx, v, nI 1, g, a, u, sl, kp, mm, P0, L0, sn, pv, r0, gn, vd, x1, x2, x3, x4, x5, x6, x7, txt, txd, bb, rfl, rfl, hTP, hDD, hST, hOF⟩ hP hD hS (lv_sub hl [2, 3, 4, 5, 6] rfl)
set_option maxHeartbeats 4000000 in
set_option maxRecDepth 100000 in
theorem lc_32 (C : LC p l s m args c A0 K dC dI Z b L xs) (hf : 20000 ≤ fu) (hR : REL c0 m0) (hP : va_P (dC, dI) vwCl (LW Z c0 m0 o) H) (hD : va_D A0 (LW Z c0 m0 o)) (hS : va_S A0 s.heap H locs) (hl : lv_has ls 9 [(0, .ref b), (1, .ref (Z.ca 0)), (2, .ref (Z.ma 0)), (3, .ref Z.q), (4, .int i)])  (hcl : cells + 8 ≤ room_1.cells ∧ slots + 48 ≤ room_1.slots) (KK : LKK p l e s m args below meth c (cells + 8) (slots + 48) Q A0 dC dI Z b i) : W p l e room_1 s m args below meth c H locs cells slots Q (F0 m 1478 ls []) := by
  obtain ⟨hc1, hc2⟩ := hcl
  obtain ⟨T, er, nd, tp, fd, ee, oo, tt, rr, sw, hh, tx, v, th, g, a, u, sl, kp, mm, P0, L0, sn, pv, r0, gn, vd, x1, x2, x3, x4, x5, x6, x7, txt, txd, bb, rfl, rfl, hTP, hDD, hST, hOF⟩ := hR
  have hRE := hST.1
  have hG := hST.2.1
  obtain ⟨w, e1, e2⟩ := (t_phraseNow th hRE hG).1
  refine lv_aload_n C.hx C.hb dL_law_1478 rfl (lv_at hl 1 rfl) ?_
  refine lqRi (z := w) (c0 := ⟨nI T, er, nI nd, tp, fd, ee, oo, tt, rr, sw, hh, tx⟩) (m0 := ⟨v, nI T, er, th, nW g, nW a, nW u, nW sl, nW kp, nI mm, nW P0, nW L0, sn, pv, nW r0, gn, vd, nI nd, x1, x2, x3, x4, x5, x6, x7, txt, txd⟩) (o := o) (As := []) (rest := []) C (c_X7_hasPhrase l dC dI Z.kI Z.kE Z.ca Z.a Z.b Z.oa Z.ob Z.ra Z.sa Z.ha Z.ux Z.uy tx (nI T) er (nI nd) tp fd ee oo tt rr sw hh _ e1) gL_law_X7_hasPhrase qX7_hasPhrase rfl ⟨(Nat.le_of_ble_eq_true rfl), (Nat.le_of_ble_eq_true rfl)⟩ ⟨rfl, rfl⟩ hP hD hS hl.1 rfl rfl (Nat.le_of_ble_eq_true rfl) dL_law_1479 ⟨by omega, by omega⟩ (fun H locs hP hD hS => ?_)
  refine lv_aload_n C.hx C.hb dL_law_1482 rfl (lv_at hl 2 rfl) ?_
  refine lqMi (z := w) (c0 := ⟨nI T, er, nI nd, tp, fd, ee, oo, tt, rr, sw, hh, tx⟩) (m0 := ⟨v, nI T, er, th, nW g, nW a, nW u, nW sl, nW kp, nI mm, nW P0, nW L0, sn, pv, nW r0, gn, vd, nI nd, x1, x2, x3, x4, x5, x6, x7, txt, txd⟩) (m1 := ⟨v, nI T, er, nI 0, nW g, nW a, nW u, nW sl, nW kp, nI mm, nW P0, nW L0, sn, pv, nW r0, gn, vd, nI nd, x1, x2, x3, x4, x5, x6, x7, txt, txd⟩) (o := o) (As := []) (rest := [.int w]) C (c_X8_hasPhrase l dC dI Z.kI Z.kB Z.kZ Z.ma v (nI T) er th (nW g) (nW a) (nW u) (nW sl) (nW kp) (nI mm) (nW P0) (nW L0) sn pv (nW r0) gn vd (nI nd) x1 x2 x3 x4 x5 x6 x7 txt txd H.size _ e2) gL_law_X8_hasPhrase qX8_hasPhrase rfl ⟨(Nat.le_of_ble_eq_true rfl), (Nat.le_of_ble_eq_true rfl)⟩ ⟨rfl, rfl⟩ hP hD hS hl.1 rfl rfl (Nat.le_of_ble_eq_true rfl) dL_law_1483 ⟨by omega, by omega⟩ (fun H locs hP hD hS => ?_)
  refine lv_icmp_eq (tgt := 2318) C.hx C.hb dL_law_1486 (by decide) (fun _ => ?_) (fun h9 => absurd (by first | rfl | decide) h9)
  refine W.widen (k := cells + 8) (n := slots + 48) (by omega) (by omega) ?_
  exact KK ⟨nI T, er, nI nd, tp, fd, ee, oo, tt, rr, sw, hh, tx⟩ ⟨v, nI T, er, nI 0, nW g, nW a, nW u, nW sl, nW kp, nI mm, nW P0, nW L0, sn, pv, nW r0, gn, vd, nI nd, x1, x2, x3, x4, x5, x6, x7, txt, txd⟩ o H locs ls ⟨T, er, nd, tp, fd, ee, oo, tt, rr, sw, hh, tx, v, nI 0, g, a, u, sl, kp, mm, P0, L0, sn, pv, r0, gn, vd, x1, x2, x3, x4, x5, x6, x7, txt, txd, bb, rfl, rfl, hTP, hDD, hST, hOF⟩ hP hD hS (lv_sub hl [0, 1, 2, 3, 4] rfl)
set_option maxHeartbeats 4000000 in
set_option maxRecDepth 100000 in
theorem lc_33 (C : LC p l s m args c A0 K dC dI Z b L xs) (hf : 20000 ≤ fu) (hR : REL c0 m0) (hP : va_P (dC, dI) vwCl (LW Z c0 m0 o) H) (hD : va_D A0 (LW Z c0 m0 o)) (hS : va_S A0 s.heap H locs) (hl : lv_has ls 9 [(0, .ref b), (1, .ref (Z.ca 0)), (2, .ref (Z.ma 0)), (3, .ref Z.q), (4, .int i)])  (hcl : cells + 8 ≤ room_1.cells ∧ slots + 48 ≤ room_1.slots) (KK : LKK p l e s m args below meth c (cells + 8) (slots + 48) Q A0 dC dI Z b i) : W p l e room_1 s m args below meth c H locs cells slots Q (F0 m 1491 ls []) := by
  obtain ⟨hc1, hc2⟩ := hcl
  obtain ⟨T, er, nd, tp, fd, ee, oo, tt, rr, sw, hh, tx, v, th, g, a, u, sl, kp, mm, P0, L0, sn, pv, r0, gn, vd, x1, x2, x3, x4, x5, x6, x7, txt, txd, bb, rfl, rfl, hTP, hDD, hST, hOF⟩ := hR
  have hRE := hST.1
  have hG := hST.2.1
  rcases (t_phraseNow th hRE hG).2 with ⟨w, e1, e2⟩ | ⟨e1, e2⟩
  · refine lv_aload_n C.hx C.hb dL_law_1491 rfl (lv_at hl 1 rfl) ?_
    refine lv_aload_n C.hx C.hb dL_law_1492 rfl (lv_at hl 3 rfl) ?_
    refine lqL (r := 0) (c0 := ⟨nI T, er, nI nd, tp, fd, ee, oo, tt, rr, sw, hh, tx⟩) (c1 := ⟨nI T, er, nI nd, tp, fd, ee, oo, tt, rr, sw, hh, tx⟩) (m0 := ⟨v, nI T, er, th, nW g, nW a, nW u, nW sl, nW kp, nI mm, nW P0, nW L0, sn, pv, nW r0, gn, vd, nI nd, x1, x2, x3, x4, x5, x6, x7, txt, txd⟩) (o := o) (o1 := (vp_updL o 0 w.toInt64)) (As := [.ref (Z.ca 0), .ref Z.q]) (rest := []) C (c_L_currentPhrase l C.hl0 dC dI K Z.kI Z.kE Z.kL Z.ca Z.a Z.b Z.oa Z.ob Z.ra Z.sa Z.ha Z.ux Z.uy tx (nI T) er (nI nd) tp fd ee oo tt rr sw hh Z.q o H.size _ e1 0 (vp_updL o 0 w.toInt64) (Or.inl ⟨w, rfl, rfl, rfl⟩)) gL_law_L_currentPhrase qL_currentPhrase rfl ⟨(Nat.le_of_ble_eq_true rfl), (Nat.le_of_ble_eq_true rfl)⟩ ⟨rfl, rfl⟩ hP hD hS hl.1 rfl rfl (Nat.le_of_ble_eq_true rfl) dL_law_1493 ⟨by omega, by omega⟩ (fun H locs hP hD hS => ?_)
    refine W.widen (k := cells + 8) (n := slots + 48) (by omega) (by omega) ?_
    refine lv_istore (lv' := [(5, .int 0), (0, .ref b), (1, .ref (Z.ca 0)), (2, .ref (Z.ma 0)), (3, .ref Z.q), (4, .int i)]) C.hx C.hb dL_law_1496 hl (by decide) rfl (fun ls hl => ?_)
    refine lv_aload_n C.hx C.hb dL_law_1498 rfl (lv_at hl 3 rfl) ?_
    refine lqMi (z := w) (c0 := ⟨nI T, er, nI nd, tp, fd, ee, oo, tt, rr, sw, hh, tx⟩) (m0 := ⟨v, nI T, er, th, nW g, nW a, nW u, nW sl, nW kp, nI mm, nW P0, nW L0, sn, pv, nW r0, gn, vd, nI nd, x1, x2, x3, x4, x5, x6, x7, txt, txd⟩) (m1 := ⟨v, nI T, er, nI 0, nW g, nW a, nW u, nW sl, nW kp, nI mm, nW P0, nW L0, sn, pv, nW r0, gn, vd, nI nd, x1, x2, x3, x4, x5, x6, x7, txt, txd⟩) (o := (vp_updL o 0 w.toInt64)) (As := []) (rest := []) C (c_X8_currentPhrase l dC dI Z.kI Z.kB Z.kZ Z.ma v (nI T) er th (nW g) (nW a) (nW u) (nW sl) (nW kp) (nI mm) (nW P0) (nW L0) sn pv (nW r0) gn vd (nI nd) x1 x2 x3 x4 x5 x6 x7 txt txd H.size _ e2) gL_law_X8_currentPhrase qX8_currentPhrase rfl ⟨(Nat.le_of_ble_eq_true rfl), (Nat.le_of_ble_eq_true rfl)⟩ ⟨rfl, rfl⟩ hP hD hS hl.1 rfl rfl (Nat.le_of_ble_eq_true rfl) dL_law_1499 ⟨by omega, by omega⟩ (fun H locs hP hD hS => ?_)
    refine lv_istore (lv' := [(6, .int w), (5, .int 0), (0, .ref b), (1, .ref (Z.ca 0)), (2, .ref (Z.ma 0)), (3, .ref Z.q), (4, .int i)]) C.hx C.hb dL_law_1502 hl (by decide) rfl (fun ls hl => ?_)
    refine lv_aload_n C.hx C.hb dL_law_1504 rfl (lv_at hl 4 rfl) ?_
    refine lqMo (z := nI 0) (c0 := ⟨nI T, er, nI nd, tp, fd, ee, oo, tt, rr, sw, hh, tx⟩) (m0 := ⟨v, nI T, er, nI 0, nW g, nW a, nW u, nW sl, nW kp, nI mm, nW P0, nW L0, sn, pv, nW r0, gn, vd, nI nd, x1, x2, x3, x4, x5, x6, x7, txt, txd⟩) (o := (vp_updL o 0 w.toInt64)) (As := []) (rest := []) C (c_X8_thrown l dC dI Z.kI Z.kB Z.kZ Z.ma v (nI T) er (nI 0) (nW g) (nW a) (nW u) (nW sl) (nW kp) (nI mm) (nW P0) (nW L0) sn pv (nW r0) gn vd (nI nd) x1 x2 x3 x4 x5 x6 x7 txt txd (nI 0) rfl) gL_law_X8_thrown qX8_thrown rfl ⟨(Nat.le_of_ble_eq_true rfl), (Nat.le_of_ble_eq_true rfl)⟩ ⟨rfl, rfl⟩ hP hD hS hl.1 rfl rfl (Nat.le_of_ble_eq_true rfl) dL_law_1505 ⟨by omega, by omega⟩ (fun H locs hP hD hS => ?_)
    refine lv_iload C.hx C.hb dL_law_1508 (lv_at hl 1 rfl) ?_
    refine lv_icmp_eq (tgt := 1515) C.hx C.hb dL_law_1510 (by decide) (fun _ => ?_) (fun h9 => absurd (by first | rfl | decide) h9)
    refine lv_iload C.hx C.hb dL_law_1515 (lv_at hl 1 rfl) ?_
    refine lv_if_ne (tgt := 1532) C.hx C.hb dL_law_1517 (by decide) (fun h9 => absurd rfl h9) (fun _ => ?_)
    refine lv_aload_n C.hx C.hb dL_law_1520 rfl (lv_at hl 5 rfl) ?_
    refine lv_iconst (v := 0) C.hx C.hb dL_law_1521 (by decide) ?_
    refine lq_o C hP dL_law_1522 ?_
    refine lv_iload C.hx C.hb dL_law_1523 (lv_at hl 0 rfl) ?_
    refine lv_i2l (v := w.toInt64) C.hx C.hb dL_law_1525 rfl ?_
    refine W.lcmp C.hx C.hb dL_law_1526 ?_
    refine lv_if_eq (tgt := 1532) C.hx C.hb dL_law_1527 (by decide) (fun _ => ?_) (fun h9 => absurd (cmp_self _) h9)
    refine lv_goto (tgt := 2318) C.hx C.hb dL_law_1532 (by decide) ?_
    exact KK ⟨nI T, er, nI nd, tp, fd, ee, oo, tt, rr, sw, hh, tx⟩ ⟨v, nI T, er, nI 0, nW g, nW a, nW u, nW sl, nW kp, nI mm, nW P0, nW L0, sn, pv, nW r0, gn, vd, nI nd, x1, x2, x3, x4, x5, x6, x7, txt, txd⟩ (vp_updL o 0 w.toInt64) H locs ls ⟨T, er, nd, tp, fd, ee, oo, tt, rr, sw, hh, tx, v, nI 0, g, a, u, sl, kp, mm, P0, L0, sn, pv, r0, gn, vd, x1, x2, x3, x4, x5, x6, x7, txt, txd, bb, rfl, rfl, hTP, hDD, hST, hOF⟩ hP hD hS (lv_sub hl [2, 3, 4, 5, 6] rfl)
  · refine lv_aload_n C.hx C.hb dL_law_1491 rfl (lv_at hl 1 rfl) ?_
    refine lv_aload_n C.hx C.hb dL_law_1492 rfl (lv_at hl 3 rfl) ?_
    refine lqL (r := 1) (c0 := ⟨nI T, er, nI nd, tp, fd, ee, oo, tt, rr, sw, hh, tx⟩) (c1 := ⟨nI T, er, nI nd, tp, fd, ee, oo, tt, rr, sw, hh, tx⟩) (m0 := ⟨v, nI T, er, th, nW g, nW a, nW u, nW sl, nW kp, nI mm, nW P0, nW L0, sn, pv, nW r0, gn, vd, nI nd, x1, x2, x3, x4, x5, x6, x7, txt, txd⟩) (o := o) (o1 := o) (As := [.ref (Z.ca 0), .ref Z.q]) (rest := []) C (c_L_currentPhrase l C.hl0 dC dI K Z.kI Z.kE Z.kL Z.ca Z.a Z.b Z.oa Z.ob Z.ra Z.sa Z.ha Z.ux Z.uy tx (nI T) er (nI nd) tp fd ee oo tt rr sw hh Z.q o H.size _ e1 1 o (Or.inr ⟨rfl, rfl, rfl⟩)) gL_law_L_currentPhrase qL_currentPhrase rfl ⟨(Nat.le_of_ble_eq_true rfl), (Nat.le_of_ble_eq_true rfl)⟩ ⟨rfl, rfl⟩ hP hD hS hl.1 rfl rfl (Nat.le_of_ble_eq_true rfl) dL_law_1493 ⟨by omega, by omega⟩ (fun H locs hP hD hS => ?_)
    refine W.widen (k := cells + 8) (n := slots + 48) (by omega) (by omega) ?_
    refine lv_istore (lv' := [(5, .int 1), (0, .ref b), (1, .ref (Z.ca 0)), (2, .ref (Z.ma 0)), (3, .ref Z.q), (4, .int i)]) C.hx C.hb dL_law_1496 hl (by decide) rfl (fun ls hl => ?_)
    refine lv_aload_n C.hx C.hb dL_law_1498 rfl (lv_at hl 3 rfl) ?_
    refine lqMi (z := nI 0) (c0 := ⟨nI T, er, nI nd, tp, fd, ee, oo, tt, rr, sw, hh, tx⟩) (m0 := ⟨v, nI T, er, th, nW g, nW a, nW u, nW sl, nW kp, nI mm, nW P0, nW L0, sn, pv, nW r0, gn, vd, nI nd, x1, x2, x3, x4, x5, x6, x7, txt, txd⟩) (m1 := ⟨v, nI T, er, nI 1, nW g, nW a, nW u, nW sl, nW kp, nI mm, nW P0, nW L0, sn, pv, nW r0, gn, vd, nI nd, x1, x2, x3, x4, x5, x6, x7, txt, txd⟩) (o := o) (As := []) (rest := []) C (c_X8_currentPhrase l dC dI Z.kI Z.kB Z.kZ Z.ma v (nI T) er th (nW g) (nW a) (nW u) (nW sl) (nW kp) (nI mm) (nW P0) (nW L0) sn pv (nW r0) gn vd (nI nd) x1 x2 x3 x4 x5 x6 x7 txt txd H.size _ e2) gL_law_X8_currentPhrase qX8_currentPhrase rfl ⟨(Nat.le_of_ble_eq_true rfl), (Nat.le_of_ble_eq_true rfl)⟩ ⟨rfl, rfl⟩ hP hD hS hl.1 rfl rfl (Nat.le_of_ble_eq_true rfl) dL_law_1499 ⟨by omega, by omega⟩ (fun H locs hP hD hS => ?_)
    refine lv_istore (lv' := [(6, .int (nI 0)), (5, .int 1), (0, .ref b), (1, .ref (Z.ca 0)), (2, .ref (Z.ma 0)), (3, .ref Z.q), (4, .int i)]) C.hx C.hb dL_law_1502 hl (by decide) rfl (fun ls hl => ?_)
    refine lv_aload_n C.hx C.hb dL_law_1504 rfl (lv_at hl 4 rfl) ?_
    refine lqMo (z := nI 1) (c0 := ⟨nI T, er, nI nd, tp, fd, ee, oo, tt, rr, sw, hh, tx⟩) (m0 := ⟨v, nI T, er, nI 1, nW g, nW a, nW u, nW sl, nW kp, nI mm, nW P0, nW L0, sn, pv, nW r0, gn, vd, nI nd, x1, x2, x3, x4, x5, x6, x7, txt, txd⟩) (o := o) (As := []) (rest := []) C (c_X8_thrown l dC dI Z.kI Z.kB Z.kZ Z.ma v (nI T) er (nI 1) (nW g) (nW a) (nW u) (nW sl) (nW kp) (nI mm) (nW P0) (nW L0) sn pv (nW r0) gn vd (nI nd) x1 x2 x3 x4 x5 x6 x7 txt txd (nI 1) rfl) gL_law_X8_thrown qX8_thrown rfl ⟨(Nat.le_of_ble_eq_true rfl), (Nat.le_of_ble_eq_true rfl)⟩ ⟨rfl, rfl⟩ hP hD hS hl.1 rfl rfl (Nat.le_of_ble_eq_true rfl) dL_law_1505 ⟨by omega, by omega⟩ (fun H locs hP hD hS => ?_)
    refine lv_iload C.hx C.hb dL_law_1508 (lv_at hl 1 rfl) ?_
    refine lv_icmp_eq (tgt := 1515) C.hx C.hb dL_law_1510 (by decide) (fun _ => ?_) (fun h9 => absurd (by first | rfl | decide) h9)
    refine lv_iload C.hx C.hb dL_law_1515 (lv_at hl 1 rfl) ?_
    refine lv_if_ne (tgt := 1532) C.hx C.hb dL_law_1517 (by decide) (fun _ => ?_) (fun h9 => absurd h9 (by decide))
    refine lv_goto (tgt := 2318) C.hx C.hb dL_law_1532 (by decide) ?_
    exact KK ⟨nI T, er, nI nd, tp, fd, ee, oo, tt, rr, sw, hh, tx⟩ ⟨v, nI T, er, nI 1, nW g, nW a, nW u, nW sl, nW kp, nI mm, nW P0, nW L0, sn, pv, nW r0, gn, vd, nI nd, x1, x2, x3, x4, x5, x6, x7, txt, txd⟩ o H locs ls ⟨T, er, nd, tp, fd, ee, oo, tt, rr, sw, hh, tx, v, nI 1, g, a, u, sl, kp, mm, P0, L0, sn, pv, r0, gn, vd, x1, x2, x3, x4, x5, x6, x7, txt, txd, bb, rfl, rfl, hTP, hDD, hST, hOF⟩ hP hD hS (lv_sub hl [2, 3, 4, 5, 6] rfl)
set_option maxHeartbeats 4000000 in
set_option maxRecDepth 100000 in
theorem lc_34 (C : LC p l s m args c A0 K dC dI Z b L xs) (hf : 20000 ≤ fu) (hR : REL c0 m0) (hP : va_P (dC, dI) vwCl (LW Z c0 m0 o) H) (hD : va_D A0 (LW Z c0 m0 o)) (hS : va_S A0 s.heap H locs) (hl : lv_has ls 9 [(0, .ref b), (1, .ref (Z.ca 0)), (2, .ref (Z.ma 0)), (3, .ref Z.q), (4, .int i)]) (hi1 : vp_in (i + 1) L) (hcl : cells + 8 ≤ room_1.cells ∧ slots + 48 ≤ room_1.slots) (KK : LKK p l e s m args below meth c (cells + 8) (slots + 48) Q A0 dC dI Z b i) : W p l e room_1 s m args below meth c H locs cells slots Q (F0 m 1535 ls []) := by
  obtain ⟨hc1, hc2⟩ := hcl
  obtain ⟨T, er, nd, tp, fd, ee, oo, tt, rr, sw, hh, tx, v, th, g, a, u, sl, kp, mm, P0, L0, sn, pv, r0, gn, vd, x1, x2, x3, x4, x5, x6, x7, txt, txd, bb, rfl, rfl, hTP, hDD, hST, hOF⟩ := hR
  have hRE := hST.1
  have hG := hST.2.1
  rcases (t_ifEncoded fu hf th hRE hG tp fd oo tt rr sw hh (xs (i + 1).toNatClampNeg)).1 with ⟨w, e1, e2⟩ | ⟨e1, e2⟩
  · refine lv_aload_n C.hx C.hb dL_law_1535 rfl (lv_at hl 1 rfl) ?_
    refine lv_aload_n C.hx C.hb dL_law_1536 rfl (lv_at hl 0 rfl) ?_
    refine lv_iload C.hx C.hb dL_law_1537 (lv_at hl 4 rfl) ?_
    refine lv_iconst (v := 1) C.hx C.hb dL_law_1539 (by decide) ?_
    refine lv_iadd C.hx C.hb dL_law_1540 ?_
    refine lq_x C hS hi1 dL_law_1541 ?_
    refine lv_aload_n C.hx C.hb dL_law_1542 rfl (lv_at hl 3 rfl) ?_
    refine lqL (r := 0) (c0 := ⟨nI T, er, nI nd, tp, fd, ee, oo, tt, rr, sw, hh, tx⟩) (c1 := ⟨nI T, er, nI nd, tp, fd, ee, oo, tt, rr, sw, hh, tx⟩) (m0 := ⟨v, nI T, er, th, nW g, nW a, nW u, nW sl, nW kp, nI mm, nW P0, nW L0, sn, pv, nW r0, gn, vd, nI nd, x1, x2, x3, x4, x5, x6, x7, txt, txd⟩) (o := o) (o1 := (vp_updL o 0 w.toInt64)) (As := [.ref (Z.ca 0), .int (xs (i + 1).toNatClampNeg), .ref Z.q]) (rest := []) C (c_L_codesIfEncoded fu l C.hl0 dC dI K Z.kI Z.kE Z.kL Z.ca Z.a Z.b Z.oa Z.ob Z.ra Z.sa Z.ha Z.ux Z.uy tx (nI T) er (nI nd) tp fd ee oo tt rr sw hh (xs (i + 1).toNatClampNeg) Z.q o H.size _ e1 0 (vp_updL o 0 w.toInt64) (Or.inl ⟨w, rfl, rfl, rfl⟩)) gL_law_L_codesIfEncoded qL_codesIfEncoded rfl ⟨(Nat.le_of_ble_eq_true rfl), (Nat.le_of_ble_eq_true rfl)⟩ ⟨rfl, rfl⟩ hP hD hS hl.1 rfl rfl (Nat.le_of_ble_eq_true rfl) dL_law_1543 ⟨by omega, by omega⟩ (fun H locs hP hD hS => ?_)
    refine W.widen (k := cells + 8) (n := slots + 48) (by omega) (by omega) ?_
    refine lv_istore (lv' := [(5, .int 0), (0, .ref b), (1, .ref (Z.ca 0)), (2, .ref (Z.ma 0)), (3, .ref Z.q), (4, .int i)]) C.hx C.hb dL_law_1546 hl (by decide) rfl (fun ls hl => ?_)
    refine lv_aload_n C.hx C.hb dL_law_1548 rfl (lv_at hl 3 rfl) ?_
    refine lv_aload_n C.hx C.hb dL_law_1549 rfl (lv_at hl 1 rfl) ?_
    refine lv_iload C.hx C.hb dL_law_1550 (lv_at hl 5 rfl) ?_
    refine lv_iconst (v := 1) C.hx C.hb dL_law_1552 (by decide) ?_
    refine lv_iadd C.hx C.hb dL_law_1553 ?_
    refine lq_x C hS hi1 dL_law_1554 ?_
    refine lqMi (z := w) (c0 := ⟨nI T, er, nI nd, tp, fd, ee, oo, tt, rr, sw, hh, tx⟩) (m0 := ⟨v, nI T, er, th, nW g, nW a, nW u, nW sl, nW kp, nI mm, nW P0, nW L0, sn, pv, nW r0, gn, vd, nI nd, x1, x2, x3, x4, x5, x6, x7, txt, txd⟩) (m1 := ⟨v, nI T, er, nI 0, nW g, nW a, nW u, nW sl, nW kp, nI mm, nW P0, nW L0, sn, pv, nW r0, gn, vd, nI nd, x1, x2, x3, x4, x5, x6, x7, txt, txd⟩) (o := (vp_updL o 0 w.toInt64)) (As := [.int (xs (i + 1).toNatClampNeg)]) (rest := []) C (c_X8_codesIfEncoded fu l dC dI Z.kI Z.kB Z.kZ Z.ma v (nI T) er th (nW g) (nW a) (nW u) (nW sl) (nW kp) (nI mm) (nW P0) (nW L0) sn pv (nW r0) gn vd (nI nd) x1 x2 x3 x4 x5 x6 x7 txt txd (xs (i + 1).toNatClampNeg) H.size _ e2) gL_law_X8_codesIfEncoded qX8_codesIfEncoded rfl ⟨(Nat.le_of_ble_eq_true rfl), (Nat.le_of_ble_eq_true rfl)⟩ ⟨rfl, rfl⟩ hP hD hS hl.1 rfl rfl (Nat.le_of_ble_eq_true rfl) dL_law_1555 ⟨by omega, by omega⟩ (fun H locs hP hD hS => ?_)
    refine lv_istore (lv' := [(6, .int w), (5, .int 0), (0, .ref b), (1, .ref (Z.ca 0)), (2, .ref (Z.ma 0)), (3, .ref Z.q), (4, .int i)]) C.hx C.hb dL_law_1558 hl (by decide) rfl (fun ls hl => ?_)
    refine lv_aload_n C.hx C.hb dL_law_1560 rfl (lv_at hl 4 rfl) ?_
    refine lqMo (z := nI 0) (c0 := ⟨nI T, er, nI nd, tp, fd, ee, oo, tt, rr, sw, hh, tx⟩) (m0 := ⟨v, nI T, er, nI 0, nW g, nW a, nW u, nW sl, nW kp, nI mm, nW P0, nW L0, sn, pv, nW r0, gn, vd, nI nd, x1, x2, x3, x4, x5, x6, x7, txt, txd⟩) (o := (vp_updL o 0 w.toInt64)) (As := []) (rest := []) C (c_X8_thrown l dC dI Z.kI Z.kB Z.kZ Z.ma v (nI T) er (nI 0) (nW g) (nW a) (nW u) (nW sl) (nW kp) (nI mm) (nW P0) (nW L0) sn pv (nW r0) gn vd (nI nd) x1 x2 x3 x4 x5 x6 x7 txt txd (nI 0) rfl) gL_law_X8_thrown qX8_thrown rfl ⟨(Nat.le_of_ble_eq_true rfl), (Nat.le_of_ble_eq_true rfl)⟩ ⟨rfl, rfl⟩ hP hD hS hl.1 rfl rfl (Nat.le_of_ble_eq_true rfl) dL_law_1561 ⟨by omega, by omega⟩ (fun H locs hP hD hS => ?_)
    refine lv_iload C.hx C.hb dL_law_1564 (lv_at hl 1 rfl) ?_
    refine lv_icmp_eq (tgt := 1571) C.hx C.hb dL_law_1566 (by decide) (fun _ => ?_) (fun h9 => absurd (by first | rfl | decide) h9)
    refine lv_iload C.hx C.hb dL_law_1571 (lv_at hl 1 rfl) ?_
    refine lv_if_ne (tgt := 1588) C.hx C.hb dL_law_1573 (by decide) (fun h9 => absurd rfl h9) (fun _ => ?_)
    refine lv_aload_n C.hx C.hb dL_law_1576 rfl (lv_at hl 5 rfl) ?_
    refine lv_iconst (v := 0) C.hx C.hb dL_law_1577 (by decide) ?_
    refine lq_o C hP dL_law_1578 ?_
    refine lv_iload C.hx C.hb dL_law_1579 (lv_at hl 0 rfl) ?_
    refine lv_i2l (v := w.toInt64) C.hx C.hb dL_law_1581 rfl ?_
    refine W.lcmp C.hx C.hb dL_law_1582 ?_
    refine lv_if_eq (tgt := 1588) C.hx C.hb dL_law_1583 (by decide) (fun _ => ?_) (fun h9 => absurd (cmp_self _) h9)
    refine lv_goto (tgt := 2318) C.hx C.hb dL_law_1588 (by decide) ?_
    exact KK ⟨nI T, er, nI nd, tp, fd, ee, oo, tt, rr, sw, hh, tx⟩ ⟨v, nI T, er, nI 0, nW g, nW a, nW u, nW sl, nW kp, nI mm, nW P0, nW L0, sn, pv, nW r0, gn, vd, nI nd, x1, x2, x3, x4, x5, x6, x7, txt, txd⟩ (vp_updL o 0 w.toInt64) H locs ls ⟨T, er, nd, tp, fd, ee, oo, tt, rr, sw, hh, tx, v, nI 0, g, a, u, sl, kp, mm, P0, L0, sn, pv, r0, gn, vd, x1, x2, x3, x4, x5, x6, x7, txt, txd, bb, rfl, rfl, hTP, hDD, hST, hOF⟩ hP hD hS (lv_sub hl [2, 3, 4, 5, 6] rfl)
  · refine lv_aload_n C.hx C.hb dL_law_1535 rfl (lv_at hl 1 rfl) ?_
    refine lv_aload_n C.hx C.hb dL_law_1536 rfl (lv_at hl 0 rfl) ?_
    refine lv_iload C.hx C.hb dL_law_1537 (lv_at hl 4 rfl) ?_
    refine lv_iconst (v := 1) C.hx C.hb dL_law_1539 (by decide) ?_
    refine lv_iadd C.hx C.hb dL_law_1540 ?_
    refine lq_x C hS hi1 dL_law_1541 ?_
    refine lv_aload_n C.hx C.hb dL_law_1542 rfl (lv_at hl 3 rfl) ?_
    refine lqL (r := 1) (c0 := ⟨nI T, er, nI nd, tp, fd, ee, oo, tt, rr, sw, hh, tx⟩) (c1 := ⟨nI T, er, nI nd, tp, fd, ee, oo, tt, rr, sw, hh, tx⟩) (m0 := ⟨v, nI T, er, th, nW g, nW a, nW u, nW sl, nW kp, nI mm, nW P0, nW L0, sn, pv, nW r0, gn, vd, nI nd, x1, x2, x3, x4, x5, x6, x7, txt, txd⟩) (o := o) (o1 := o) (As := [.ref (Z.ca 0), .int (xs (i + 1).toNatClampNeg), .ref Z.q]) (rest := []) C (c_L_codesIfEncoded fu l C.hl0 dC dI K Z.kI Z.kE Z.kL Z.ca Z.a Z.b Z.oa Z.ob Z.ra Z.sa Z.ha Z.ux Z.uy tx (nI T) er (nI nd) tp fd ee oo tt rr sw hh (xs (i + 1).toNatClampNeg) Z.q o H.size _ e1 1 o (Or.inr ⟨rfl, rfl, rfl⟩)) gL_law_L_codesIfEncoded qL_codesIfEncoded rfl ⟨(Nat.le_of_ble_eq_true rfl), (Nat.le_of_ble_eq_true rfl)⟩ ⟨rfl, rfl⟩ hP hD hS hl.1 rfl rfl (Nat.le_of_ble_eq_true rfl) dL_law_1543 ⟨by omega, by omega⟩ (fun H locs hP hD hS => ?_)
    refine W.widen (k := cells + 8) (n := slots + 48) (by omega) (by omega) ?_
    refine lv_istore (lv' := [(5, .int 1), (0, .ref b), (1, .ref (Z.ca 0)), (2, .ref (Z.ma 0)), (3, .ref Z.q), (4, .int i)]) C.hx C.hb dL_law_1546 hl (by decide) rfl (fun ls hl => ?_)
    refine lv_aload_n C.hx C.hb dL_law_1548 rfl (lv_at hl 3 rfl) ?_
    refine lv_aload_n C.hx C.hb dL_law_1549 rfl (lv_at hl 1 rfl) ?_
    refine lv_iload C.hx C.hb dL_law_1550 (lv_at hl 5 rfl) ?_
    refine lv_iconst (v := 1) C.hx C.hb dL_law_1552 (by decide) ?_
    refine lv_iadd C.hx C.hb dL_law_1553 ?_
    refine lq_x C hS hi1 dL_law_1554 ?_
    refine lqMi (z := nI 0) (c0 := ⟨nI T, er, nI nd, tp, fd, ee, oo, tt, rr, sw, hh, tx⟩) (m0 := ⟨v, nI T, er, th, nW g, nW a, nW u, nW sl, nW kp, nI mm, nW P0, nW L0, sn, pv, nW r0, gn, vd, nI nd, x1, x2, x3, x4, x5, x6, x7, txt, txd⟩) (m1 := ⟨v, nI T, er, nI 1, nW g, nW a, nW u, nW sl, nW kp, nI mm, nW P0, nW L0, sn, pv, nW r0, gn, vd, nI nd, x1, x2, x3, x4, x5, x6, x7, txt, txd⟩) (o := o) (As := [.int (xs (i + 1).toNatClampNeg)]) (rest := []) C (c_X8_codesIfEncoded fu l dC dI Z.kI Z.kB Z.kZ Z.ma v (nI T) er th (nW g) (nW a) (nW u) (nW sl) (nW kp) (nI mm) (nW P0) (nW L0) sn pv (nW r0) gn vd (nI nd) x1 x2 x3 x4 x5 x6 x7 txt txd (xs (i + 1).toNatClampNeg) H.size _ e2) gL_law_X8_codesIfEncoded qX8_codesIfEncoded rfl ⟨(Nat.le_of_ble_eq_true rfl), (Nat.le_of_ble_eq_true rfl)⟩ ⟨rfl, rfl⟩ hP hD hS hl.1 rfl rfl (Nat.le_of_ble_eq_true rfl) dL_law_1555 ⟨by omega, by omega⟩ (fun H locs hP hD hS => ?_)
    refine lv_istore (lv' := [(6, .int (nI 0)), (5, .int 1), (0, .ref b), (1, .ref (Z.ca 0)), (2, .ref (Z.ma 0)), (3, .ref Z.q), (4, .int i)]) C.hx C.hb dL_law_1558 hl (by decide) rfl (fun ls hl => ?_)
    refine lv_aload_n C.hx C.hb dL_law_1560 rfl (lv_at hl 4 rfl) ?_
    refine lqMo (z := nI 1) (c0 := ⟨nI T, er, nI nd, tp, fd, ee, oo, tt, rr, sw, hh, tx⟩) (m0 := ⟨v, nI T, er, nI 1, nW g, nW a, nW u, nW sl, nW kp, nI mm, nW P0, nW L0, sn, pv, nW r0, gn, vd, nI nd, x1, x2, x3, x4, x5, x6, x7, txt, txd⟩) (o := o) (As := []) (rest := []) C (c_X8_thrown l dC dI Z.kI Z.kB Z.kZ Z.ma v (nI T) er (nI 1) (nW g) (nW a) (nW u) (nW sl) (nW kp) (nI mm) (nW P0) (nW L0) sn pv (nW r0) gn vd (nI nd) x1 x2 x3 x4 x5 x6 x7 txt txd (nI 1) rfl) gL_law_X8_thrown qX8_thrown rfl ⟨(Nat.le_of_ble_eq_true rfl), (Nat.le_of_ble_eq_true rfl)⟩ ⟨rfl, rfl⟩ hP hD hS hl.1 rfl rfl (Nat.le_of_ble_eq_true rfl) dL_law_1561 ⟨by omega, by omega⟩ (fun H locs hP hD hS => ?_)
    refine lv_iload C.hx C.hb dL_law_1564 (lv_at hl 1 rfl) ?_
    refine lv_icmp_eq (tgt := 1571) C.hx C.hb dL_law_1566 (by decide) (fun _ => ?_) (fun h9 => absurd (by first | rfl | decide) h9)
    refine lv_iload C.hx C.hb dL_law_1571 (lv_at hl 1 rfl) ?_
    refine lv_if_ne (tgt := 1588) C.hx C.hb dL_law_1573 (by decide) (fun _ => ?_) (fun h9 => absurd h9 (by decide))
    refine lv_goto (tgt := 2318) C.hx C.hb dL_law_1588 (by decide) ?_
    exact KK ⟨nI T, er, nI nd, tp, fd, ee, oo, tt, rr, sw, hh, tx⟩ ⟨v, nI T, er, nI 1, nW g, nW a, nW u, nW sl, nW kp, nI mm, nW P0, nW L0, sn, pv, nW r0, gn, vd, nI nd, x1, x2, x3, x4, x5, x6, x7, txt, txd⟩ o H locs ls ⟨T, er, nd, tp, fd, ee, oo, tt, rr, sw, hh, tx, v, nI 1, g, a, u, sl, kp, mm, P0, L0, sn, pv, r0, gn, vd, x1, x2, x3, x4, x5, x6, x7, txt, txd, bb, rfl, rfl, hTP, hDD, hST, hOF⟩ hP hD hS (lv_sub hl [2, 3, 4, 5, 6] rfl)
set_option maxHeartbeats 4000000 in
set_option maxRecDepth 100000 in
theorem lc_35 (C : LC p l s m args c A0 K dC dI Z b L xs) (hf : 20000 ≤ fu) (hR : REL c0 m0) (hP : va_P (dC, dI) vwCl (LW Z c0 m0 o) H) (hD : va_D A0 (LW Z c0 m0 o)) (hS : va_S A0 s.heap H locs) (hl : lv_has ls 9 [(0, .ref b), (1, .ref (Z.ca 0)), (2, .ref (Z.ma 0)), (3, .ref Z.q), (4, .int i)]) (hi1 : vp_in (i + 1) L) (hcl : cells + 8 ≤ room_1.cells ∧ slots + 48 ≤ room_1.slots) (KK : LKK p l e s m args below meth c (cells + 8) (slots + 48) Q A0 dC dI Z b i) : W p l e room_1 s m args below meth c H locs cells slots Q (F0 m 1591 ls []) := by
  obtain ⟨hc1, hc2⟩ := hcl
  obtain ⟨T, er, nd, tp, fd, ee, oo, tt, rr, sw, hh, tx, v, th, g, a, u, sl, kp, mm, P0, L0, sn, pv, r0, gn, vd, x1, x2, x3, x4, x5, x6, x7, txt, txd, bb, rfl, rfl, hTP, hDD, hST, hOF⟩ := hR
  have hRE := hST.1
  have hG := hST.2.1
  rcases (t_ifEncoded fu hf th hRE hG tp fd oo tt rr sw hh (xs (i + 1).toNatClampNeg)).2 with ⟨w, e1, e2⟩ | ⟨e1, e2⟩
  · refine lv_aload_n C.hx C.hb dL_law_1591 rfl (lv_at hl 1 rfl) ?_
    refine lv_aload_n C.hx C.hb dL_law_1592 rfl (lv_at hl 0 rfl) ?_
    refine lv_iload C.hx C.hb dL_law_1593 (lv_at hl 4 rfl) ?_
    refine lv_iconst (v := 1) C.hx C.hb dL_law_1595 (by decide) ?_
    refine lv_iadd C.hx C.hb dL_law_1596 ?_
    refine lq_x C hS hi1 dL_law_1597 ?_
    refine lv_aload_n C.hx C.hb dL_law_1598 rfl (lv_at hl 3 rfl) ?_
    refine lqL (r := 0) (c0 := ⟨nI T, er, nI nd, tp, fd, ee, oo, tt, rr, sw, hh, tx⟩) (c1 := ⟨nI T, er, nI nd, tp, fd, ee, oo, tt, rr, sw, hh, tx⟩) (m0 := ⟨v, nI T, er, th, nW g, nW a, nW u, nW sl, nW kp, nI mm, nW P0, nW L0, sn, pv, nW r0, gn, vd, nI nd, x1, x2, x3, x4, x5, x6, x7, txt, txd⟩) (o := o) (o1 := (vp_updL o 0 w.toInt64)) (As := [.ref (Z.ca 0), .int (xs (i + 1).toNatClampNeg), .ref Z.q]) (rest := []) C (c_L_clearsIfEncoded fu l C.hl0 dC dI K Z.kI Z.kE Z.kL Z.ca Z.a Z.b Z.oa Z.ob Z.ra Z.sa Z.ha Z.ux Z.uy tx (nI T) er (nI nd) tp fd ee oo tt rr sw hh (xs (i + 1).toNatClampNeg) Z.q o H.size _ e1 0 (vp_updL o 0 w.toInt64) (Or.inl ⟨w, rfl, rfl, rfl⟩)) gL_law_L_clearsIfEncoded qL_clearsIfEncoded rfl ⟨(Nat.le_of_ble_eq_true rfl), (Nat.le_of_ble_eq_true rfl)⟩ ⟨rfl, rfl⟩ hP hD hS hl.1 rfl rfl (Nat.le_of_ble_eq_true rfl) dL_law_1599 ⟨by omega, by omega⟩ (fun H locs hP hD hS => ?_)
    refine W.widen (k := cells + 8) (n := slots + 48) (by omega) (by omega) ?_
    refine lv_istore (lv' := [(5, .int 0), (0, .ref b), (1, .ref (Z.ca 0)), (2, .ref (Z.ma 0)), (3, .ref Z.q), (4, .int i)]) C.hx C.hb dL_law_1602 hl (by decide) rfl (fun ls hl => ?_)
    refine lv_aload_n C.hx C.hb dL_law_1604 rfl (lv_at hl 3 rfl) ?_
    refine lv_aload_n C.hx C.hb dL_law_1605 rfl (lv_at hl 1 rfl) ?_
    refine lv_iload C.hx C.hb dL_law_1606 (lv_at hl 5 rfl) ?_
    refine lv_iconst (v := 1) C.hx C.hb dL_law_1608 (by decide) ?_
    refine lv_iadd C.hx C.hb dL_law_1609 ?_
    refine lq_x C hS hi1 dL_law_1610 ?_
    refine lqMi (z := w) (c0 := ⟨nI T, er, nI nd, tp, fd, ee, oo, tt, rr, sw, hh, tx⟩) (m0 := ⟨v, nI T, er, th, nW g, nW a, nW u, nW sl, nW kp, nI mm, nW P0, nW L0, sn, pv, nW r0, gn, vd, nI nd, x1, x2, x3, x4, x5, x6, x7, txt, txd⟩) (m1 := ⟨v, nI T, er, nI 0, nW g, nW a, nW u, nW sl, nW kp, nI mm, nW P0, nW L0, sn, pv, nW r0, gn, vd, nI nd, x1, x2, x3, x4, x5, x6, x7, txt, txd⟩) (o := (vp_updL o 0 w.toInt64)) (As := [.int (xs (i + 1).toNatClampNeg)]) (rest := []) C (c_X8_clearsIfEncoded fu l dC dI Z.kI Z.kB Z.kZ Z.ma v (nI T) er th (nW g) (nW a) (nW u) (nW sl) (nW kp) (nI mm) (nW P0) (nW L0) sn pv (nW r0) gn vd (nI nd) x1 x2 x3 x4 x5 x6 x7 txt txd (xs (i + 1).toNatClampNeg) H.size _ e2) gL_law_X8_clearsIfEncoded qX8_clearsIfEncoded rfl ⟨(Nat.le_of_ble_eq_true rfl), (Nat.le_of_ble_eq_true rfl)⟩ ⟨rfl, rfl⟩ hP hD hS hl.1 rfl rfl (Nat.le_of_ble_eq_true rfl) dL_law_1611 ⟨by omega, by omega⟩ (fun H locs hP hD hS => ?_)
    refine lv_istore (lv' := [(6, .int w), (5, .int 0), (0, .ref b), (1, .ref (Z.ca 0)), (2, .ref (Z.ma 0)), (3, .ref Z.q), (4, .int i)]) C.hx C.hb dL_law_1614 hl (by decide) rfl (fun ls hl => ?_)
    refine lv_aload_n C.hx C.hb dL_law_1616 rfl (lv_at hl 4 rfl) ?_
    refine lqMo (z := nI 0) (c0 := ⟨nI T, er, nI nd, tp, fd, ee, oo, tt, rr, sw, hh, tx⟩) (m0 := ⟨v, nI T, er, nI 0, nW g, nW a, nW u, nW sl, nW kp, nI mm, nW P0, nW L0, sn, pv, nW r0, gn, vd, nI nd, x1, x2, x3, x4, x5, x6, x7, txt, txd⟩) (o := (vp_updL o 0 w.toInt64)) (As := []) (rest := []) C (c_X8_thrown l dC dI Z.kI Z.kB Z.kZ Z.ma v (nI T) er (nI 0) (nW g) (nW a) (nW u) (nW sl) (nW kp) (nI mm) (nW P0) (nW L0) sn pv (nW r0) gn vd (nI nd) x1 x2 x3 x4 x5 x6 x7 txt txd (nI 0) rfl) gL_law_X8_thrown qX8_thrown rfl ⟨(Nat.le_of_ble_eq_true rfl), (Nat.le_of_ble_eq_true rfl)⟩ ⟨rfl, rfl⟩ hP hD hS hl.1 rfl rfl (Nat.le_of_ble_eq_true rfl) dL_law_1617 ⟨by omega, by omega⟩ (fun H locs hP hD hS => ?_)
    refine lv_iload C.hx C.hb dL_law_1620 (lv_at hl 1 rfl) ?_
    refine lv_icmp_eq (tgt := 1627) C.hx C.hb dL_law_1622 (by decide) (fun _ => ?_) (fun h9 => absurd (by first | rfl | decide) h9)
    refine lv_iload C.hx C.hb dL_law_1627 (lv_at hl 1 rfl) ?_
    refine lv_if_ne (tgt := 1644) C.hx C.hb dL_law_1629 (by decide) (fun h9 => absurd rfl h9) (fun _ => ?_)
    refine lv_aload_n C.hx C.hb dL_law_1632 rfl (lv_at hl 5 rfl) ?_
    refine lv_iconst (v := 0) C.hx C.hb dL_law_1633 (by decide) ?_
    refine lq_o C hP dL_law_1634 ?_
    refine lv_iload C.hx C.hb dL_law_1635 (lv_at hl 0 rfl) ?_
    refine lv_i2l (v := w.toInt64) C.hx C.hb dL_law_1637 rfl ?_
    refine W.lcmp C.hx C.hb dL_law_1638 ?_
    refine lv_if_eq (tgt := 1644) C.hx C.hb dL_law_1639 (by decide) (fun _ => ?_) (fun h9 => absurd (cmp_self _) h9)
    refine lv_goto (tgt := 2318) C.hx C.hb dL_law_1644 (by decide) ?_
    exact KK ⟨nI T, er, nI nd, tp, fd, ee, oo, tt, rr, sw, hh, tx⟩ ⟨v, nI T, er, nI 0, nW g, nW a, nW u, nW sl, nW kp, nI mm, nW P0, nW L0, sn, pv, nW r0, gn, vd, nI nd, x1, x2, x3, x4, x5, x6, x7, txt, txd⟩ (vp_updL o 0 w.toInt64) H locs ls ⟨T, er, nd, tp, fd, ee, oo, tt, rr, sw, hh, tx, v, nI 0, g, a, u, sl, kp, mm, P0, L0, sn, pv, r0, gn, vd, x1, x2, x3, x4, x5, x6, x7, txt, txd, bb, rfl, rfl, hTP, hDD, hST, hOF⟩ hP hD hS (lv_sub hl [2, 3, 4, 5, 6] rfl)
  · refine lv_aload_n C.hx C.hb dL_law_1591 rfl (lv_at hl 1 rfl) ?_
    refine lv_aload_n C.hx C.hb dL_law_1592 rfl (lv_at hl 0 rfl) ?_
    refine lv_iload C.hx C.hb dL_law_1593 (lv_at hl 4 rfl) ?_
    refine lv_iconst (v := 1) C.hx C.hb dL_law_1595 (by decide) ?_
    refine lv_iadd C.hx C.hb dL_law_1596 ?_
    refine lq_x C hS hi1 dL_law_1597 ?_
    refine lv_aload_n C.hx C.hb dL_law_1598 rfl (lv_at hl 3 rfl) ?_
    refine lqL (r := 1) (c0 := ⟨nI T, er, nI nd, tp, fd, ee, oo, tt, rr, sw, hh, tx⟩) (c1 := ⟨nI T, er, nI nd, tp, fd, ee, oo, tt, rr, sw, hh, tx⟩) (m0 := ⟨v, nI T, er, th, nW g, nW a, nW u, nW sl, nW kp, nI mm, nW P0, nW L0, sn, pv, nW r0, gn, vd, nI nd, x1, x2, x3, x4, x5, x6, x7, txt, txd⟩) (o := o) (o1 := o) (As := [.ref (Z.ca 0), .int (xs (i + 1).toNatClampNeg), .ref Z.q]) (rest := []) C (c_L_clearsIfEncoded fu l C.hl0 dC dI K Z.kI Z.kE Z.kL Z.ca Z.a Z.b Z.oa Z.ob Z.ra Z.sa Z.ha Z.ux Z.uy tx (nI T) er (nI nd) tp fd ee oo tt rr sw hh (xs (i + 1).toNatClampNeg) Z.q o H.size _ e1 1 o (Or.inr ⟨rfl, rfl, rfl⟩)) gL_law_L_clearsIfEncoded qL_clearsIfEncoded rfl ⟨(Nat.le_of_ble_eq_true rfl), (Nat.le_of_ble_eq_true rfl)⟩ ⟨rfl, rfl⟩ hP hD hS hl.1 rfl rfl (Nat.le_of_ble_eq_true rfl) dL_law_1599 ⟨by omega, by omega⟩ (fun H locs hP hD hS => ?_)
    refine W.widen (k := cells + 8) (n := slots + 48) (by omega) (by omega) ?_
    refine lv_istore (lv' := [(5, .int 1), (0, .ref b), (1, .ref (Z.ca 0)), (2, .ref (Z.ma 0)), (3, .ref Z.q), (4, .int i)]) C.hx C.hb dL_law_1602 hl (by decide) rfl (fun ls hl => ?_)
    refine lv_aload_n C.hx C.hb dL_law_1604 rfl (lv_at hl 3 rfl) ?_
    refine lv_aload_n C.hx C.hb dL_law_1605 rfl (lv_at hl 1 rfl) ?_
    refine lv_iload C.hx C.hb dL_law_1606 (lv_at hl 5 rfl) ?_
    refine lv_iconst (v := 1) C.hx C.hb dL_law_1608 (by decide) ?_
    refine lv_iadd C.hx C.hb dL_law_1609 ?_
    refine lq_x C hS hi1 dL_law_1610 ?_
    refine lqMi (z := nI 0) (c0 := ⟨nI T, er, nI nd, tp, fd, ee, oo, tt, rr, sw, hh, tx⟩) (m0 := ⟨v, nI T, er, th, nW g, nW a, nW u, nW sl, nW kp, nI mm, nW P0, nW L0, sn, pv, nW r0, gn, vd, nI nd, x1, x2, x3, x4, x5, x6, x7, txt, txd⟩) (m1 := ⟨v, nI T, er, nI 1, nW g, nW a, nW u, nW sl, nW kp, nI mm, nW P0, nW L0, sn, pv, nW r0, gn, vd, nI nd, x1, x2, x3, x4, x5, x6, x7, txt, txd⟩) (o := o) (As := [.int (xs (i + 1).toNatClampNeg)]) (rest := []) C (c_X8_clearsIfEncoded fu l dC dI Z.kI Z.kB Z.kZ Z.ma v (nI T) er th (nW g) (nW a) (nW u) (nW sl) (nW kp) (nI mm) (nW P0) (nW L0) sn pv (nW r0) gn vd (nI nd) x1 x2 x3 x4 x5 x6 x7 txt txd (xs (i + 1).toNatClampNeg) H.size _ e2) gL_law_X8_clearsIfEncoded qX8_clearsIfEncoded rfl ⟨(Nat.le_of_ble_eq_true rfl), (Nat.le_of_ble_eq_true rfl)⟩ ⟨rfl, rfl⟩ hP hD hS hl.1 rfl rfl (Nat.le_of_ble_eq_true rfl) dL_law_1611 ⟨by omega, by omega⟩ (fun H locs hP hD hS => ?_)
    refine lv_istore (lv' := [(6, .int (nI 0)), (5, .int 1), (0, .ref b), (1, .ref (Z.ca 0)), (2, .ref (Z.ma 0)), (3, .ref Z.q), (4, .int i)]) C.hx C.hb dL_law_1614 hl (by decide) rfl (fun ls hl => ?_)
    refine lv_aload_n C.hx C.hb dL_law_1616 rfl (lv_at hl 4 rfl) ?_
    refine lqMo (z := nI 1) (c0 := ⟨nI T, er, nI nd, tp, fd, ee, oo, tt, rr, sw, hh, tx⟩) (m0 := ⟨v, nI T, er, nI 1, nW g, nW a, nW u, nW sl, nW kp, nI mm, nW P0, nW L0, sn, pv, nW r0, gn, vd, nI nd, x1, x2, x3, x4, x5, x6, x7, txt, txd⟩) (o := o) (As := []) (rest := []) C (c_X8_thrown l dC dI Z.kI Z.kB Z.kZ Z.ma v (nI T) er (nI 1) (nW g) (nW a) (nW u) (nW sl) (nW kp) (nI mm) (nW P0) (nW L0) sn pv (nW r0) gn vd (nI nd) x1 x2 x3 x4 x5 x6 x7 txt txd (nI 1) rfl) gL_law_X8_thrown qX8_thrown rfl ⟨(Nat.le_of_ble_eq_true rfl), (Nat.le_of_ble_eq_true rfl)⟩ ⟨rfl, rfl⟩ hP hD hS hl.1 rfl rfl (Nat.le_of_ble_eq_true rfl) dL_law_1617 ⟨by omega, by omega⟩ (fun H locs hP hD hS => ?_)
    refine lv_iload C.hx C.hb dL_law_1620 (lv_at hl 1 rfl) ?_
    refine lv_icmp_eq (tgt := 1627) C.hx C.hb dL_law_1622 (by decide) (fun _ => ?_) (fun h9 => absurd (by first | rfl | decide) h9)
    refine lv_iload C.hx C.hb dL_law_1627 (lv_at hl 1 rfl) ?_
    refine lv_if_ne (tgt := 1644) C.hx C.hb dL_law_1629 (by decide) (fun _ => ?_) (fun h9 => absurd h9 (by decide))
    refine lv_goto (tgt := 2318) C.hx C.hb dL_law_1644 (by decide) ?_
    exact KK ⟨nI T, er, nI nd, tp, fd, ee, oo, tt, rr, sw, hh, tx⟩ ⟨v, nI T, er, nI 1, nW g, nW a, nW u, nW sl, nW kp, nI mm, nW P0, nW L0, sn, pv, nW r0, gn, vd, nI nd, x1, x2, x3, x4, x5, x6, x7, txt, txd⟩ o H locs ls ⟨T, er, nd, tp, fd, ee, oo, tt, rr, sw, hh, tx, v, nI 1, g, a, u, sl, kp, mm, P0, L0, sn, pv, r0, gn, vd, x1, x2, x3, x4, x5, x6, x7, txt, txd, bb, rfl, rfl, hTP, hDD, hST, hOF⟩ hP hD hS (lv_sub hl [2, 3, 4, 5, 6] rfl)
set_option maxHeartbeats 4000000 in
set_option maxRecDepth 100000 in
theorem lc_36 (C : LC p l s m args c A0 K dC dI Z b L xs) (hf : 20000 ≤ fu) (hR : REL c0 m0) (hP : va_P (dC, dI) vwCl (LW Z c0 m0 o) H) (hD : va_D A0 (LW Z c0 m0 o)) (hS : va_S A0 s.heap H locs) (hl : lv_has ls 9 [(0, .ref b), (1, .ref (Z.ca 0)), (2, .ref (Z.ma 0)), (3, .ref Z.q), (4, .int i)])  (hcl : cells + 8 ≤ room_1.cells ∧ slots + 48 ≤ room_1.slots) (KK : LKK p l e s m args below meth c (cells + 8) (slots + 48) Q A0 dC dI Z b i) : W p l e room_1 s m args below meth c H locs cells slots Q (F0 m 1647 ls []) := by
  obtain ⟨hc1, hc2⟩ := hcl
  obtain ⟨T, er, nd, tp, fd, ee, oo, tt, rr, sw, hh, tx, v, th, g, a, u, sl, kp, mm, P0, L0, sn, pv, r0, gn, vd, x1, x2, x3, x4, x5, x6, x7, txt, txd, bb, rfl, rfl, hTP, hDD, hST, hOF⟩ := hR
  have hRE := hST.1
  have hG := hST.2.1
  obtain ⟨w, e1, e2⟩ := (t_looks0 fu hf th hRE hG).2.2.2.2.2.2.1
  refine lv_aload_n C.hx C.hb dL_law_1647 rfl (lv_at hl 1 rfl) ?_
  refine lqRi (z := w) (c0 := ⟨nI T, er, nI nd, tp, fd, ee, oo, tt, rr, sw, hh, tx⟩) (m0 := ⟨v, nI T, er, th, nW g, nW a, nW u, nW sl, nW kp, nI mm, nW P0, nW L0, sn, pv, nW r0, gn, vd, nI nd, x1, x2, x3, x4, x5, x6, x7, txt, txd⟩) (o := o) (As := []) (rest := []) C (c_X7_encodedCount l dC dI Z.kI Z.kE Z.ca Z.a Z.b Z.oa Z.ob Z.ra Z.sa Z.ha Z.ux Z.uy tx (nI T) er (nI nd) tp fd ee oo tt rr sw hh _ e1) gL_law_X7_encodedCount qX7_encodedCount rfl ⟨(Nat.le_of_ble_eq_true rfl), (Nat.le_of_ble_eq_true rfl)⟩ ⟨rfl, rfl⟩ hP hD hS hl.1 rfl rfl (Nat.le_of_ble_eq_true rfl) dL_law_1648 ⟨by omega, by omega⟩ (fun H locs hP hD hS => ?_)
  refine lv_aload_n C.hx C.hb dL_law_1651 rfl (lv_at hl 2 rfl) ?_
  refine lqMi (z := w) (c0 := ⟨nI T, er, nI nd, tp, fd, ee, oo, tt, rr, sw, hh, tx⟩) (m0 := ⟨v, nI T, er, th, nW g, nW a, nW u, nW sl, nW kp, nI mm, nW P0, nW L0, sn, pv, nW r0, gn, vd, nI nd, x1, x2, x3, x4, x5, x6, x7, txt, txd⟩) (m1 := ⟨v, nI T, er, nI 0, nW g, nW a, nW u, nW sl, nW kp, nI mm, nW P0, nW L0, sn, pv, nW r0, gn, vd, nI nd, x1, x2, x3, x4, x5, x6, x7, txt, txd⟩) (o := o) (As := []) (rest := [.int w]) C (c_X8_encodedCount l dC dI Z.kI Z.kB Z.kZ Z.ma v (nI T) er th (nW g) (nW a) (nW u) (nW sl) (nW kp) (nI mm) (nW P0) (nW L0) sn pv (nW r0) gn vd (nI nd) x1 x2 x3 x4 x5 x6 x7 txt txd H.size _ e2) gL_law_X8_encodedCount qX8_encodedCount rfl ⟨(Nat.le_of_ble_eq_true rfl), (Nat.le_of_ble_eq_true rfl)⟩ ⟨rfl, rfl⟩ hP hD hS hl.1 rfl rfl (Nat.le_of_ble_eq_true rfl) dL_law_1652 ⟨by omega, by omega⟩ (fun H locs hP hD hS => ?_)
  refine lv_icmp_eq (tgt := 2318) C.hx C.hb dL_law_1655 (by decide) (fun _ => ?_) (fun h9 => absurd (by first | rfl | decide) h9)
  refine W.widen (k := cells + 8) (n := slots + 48) (by omega) (by omega) ?_
  exact KK ⟨nI T, er, nI nd, tp, fd, ee, oo, tt, rr, sw, hh, tx⟩ ⟨v, nI T, er, nI 0, nW g, nW a, nW u, nW sl, nW kp, nI mm, nW P0, nW L0, sn, pv, nW r0, gn, vd, nI nd, x1, x2, x3, x4, x5, x6, x7, txt, txd⟩ o H locs ls ⟨T, er, nd, tp, fd, ee, oo, tt, rr, sw, hh, tx, v, nI 0, g, a, u, sl, kp, mm, P0, L0, sn, pv, r0, gn, vd, x1, x2, x3, x4, x5, x6, x7, txt, txd, bb, rfl, rfl, hTP, hDD, hST, hOF⟩ hP hD hS (lv_sub hl [0, 1, 2, 3, 4] rfl)
set_option maxHeartbeats 4000000 in
set_option maxRecDepth 100000 in
theorem lc_37 (C : LC p l s m args c A0 K dC dI Z b L xs) (hf : 20000 ≤ fu) (hR : REL c0 m0) (hP : va_P (dC, dI) vwCl (LW Z c0 m0 o) H) (hD : va_D A0 (LW Z c0 m0 o)) (hS : va_S A0 s.heap H locs) (hl : lv_has ls 9 [(0, .ref b), (1, .ref (Z.ca 0)), (2, .ref (Z.ma 0)), (3, .ref Z.q), (4, .int i)]) (hi1 : vp_in (i + 1) L) (hcl : cells + 8 ≤ room_1.cells ∧ slots + 48 ≤ room_1.slots) (KK : LKK p l e s m args below meth c (cells + 8) (slots + 48) Q A0 dC dI Z b i) : W p l e room_1 s m args below meth c H locs cells slots Q (F0 m 1660 ls []) := by
  obtain ⟨hc1, hc2⟩ := hcl
  obtain ⟨T, er, nd, tp, fd, ee, oo, tt, rr, sw, hh, tx, v, th, g, a, u, sl, kp, mm, P0, L0, sn, pv, r0, gn, vd, x1, x2, x3, x4, x5, x6, x7, txt, txd, bb, rfl, rfl, hTP, hDD, hST, hOF⟩ := hR
  have hRE := hST.1
  have hG := hST.2.1
  rcases t_encodedSymbol th hRE hG (xs (i + 1).toNatClampNeg) with ⟨w, e1, e2⟩ | ⟨e1, e2⟩
  · refine lv_aload_n C.hx C.hb dL_law_1660 rfl (lv_at hl 1 rfl) ?_
    refine lv_aload_n C.hx C.hb dL_law_1661 rfl (lv_at hl 0 rfl) ?_
    refine lv_iload C.hx C.hb dL_law_1662 (lv_at hl 4 rfl) ?_
    refine lv_iconst (v := 1) C.hx C.hb dL_law_1664 (by decide) ?_
    refine lv_iadd C.hx C.hb dL_law_1665 ?_
    refine lq_x C hS hi1 dL_law_1666 ?_
    refine lv_aload_n C.hx C.hb dL_law_1667 rfl (lv_at hl 3 rfl) ?_
    refine lqL (r := 0) (c0 := ⟨nI T, er, nI nd, tp, fd, ee, oo, tt, rr, sw, hh, tx⟩) (c1 := ⟨nI T, er, nI nd, tp, fd, ee, oo, tt, rr, sw, hh, tx⟩) (m0 := ⟨v, nI T, er, th, nW g, nW a, nW u, nW sl, nW kp, nI mm, nW P0, nW L0, sn, pv, nW r0, gn, vd, nI nd, x1, x2, x3, x4, x5, x6, x7, txt, txd⟩) (o := o) (o1 := (vp_updL o 0 w.toInt64)) (As := [.ref (Z.ca 0), .int (xs (i + 1).toNatClampNeg), .ref Z.q]) (rest := []) C (c_L_encodedSymbol l C.hl0 dC dI K Z.kI Z.kE Z.kL Z.ca Z.a Z.b Z.oa Z.ob Z.ra Z.sa Z.ha Z.ux Z.uy tx (nI T) er (nI nd) tp fd ee oo tt rr sw hh (xs (i + 1).toNatClampNeg) Z.q o H.size _ e1 0 (vp_updL o 0 w.toInt64) (Or.inl ⟨w, rfl, rfl, rfl⟩)) gL_law_L_encodedSymbol qL_encodedSymbol rfl ⟨(Nat.le_of_ble_eq_true rfl), (Nat.le_of_ble_eq_true rfl)⟩ ⟨rfl, rfl⟩ hP hD hS hl.1 rfl rfl (Nat.le_of_ble_eq_true rfl) dL_law_1668 ⟨by omega, by omega⟩ (fun H locs hP hD hS => ?_)
    refine W.widen (k := cells + 8) (n := slots + 48) (by omega) (by omega) ?_
    refine lv_istore (lv' := [(5, .int 0), (0, .ref b), (1, .ref (Z.ca 0)), (2, .ref (Z.ma 0)), (3, .ref Z.q), (4, .int i)]) C.hx C.hb dL_law_1671 hl (by decide) rfl (fun ls hl => ?_)
    refine lv_aload_n C.hx C.hb dL_law_1673 rfl (lv_at hl 3 rfl) ?_
    refine lv_aload_n C.hx C.hb dL_law_1674 rfl (lv_at hl 1 rfl) ?_
    refine lv_iload C.hx C.hb dL_law_1675 (lv_at hl 5 rfl) ?_
    refine lv_iconst (v := 1) C.hx C.hb dL_law_1677 (by decide) ?_
    refine lv_iadd C.hx C.hb dL_law_1678 ?_
    refine lq_x C hS hi1 dL_law_1679 ?_
    refine lqMi (z := w) (c0 := ⟨nI T, er, nI nd, tp, fd, ee, oo, tt, rr, sw, hh, tx⟩) (m0 := ⟨v, nI T, er, th, nW g, nW a, nW u, nW sl, nW kp, nI mm, nW P0, nW L0, sn, pv, nW r0, gn, vd, nI nd, x1, x2, x3, x4, x5, x6, x7, txt, txd⟩) (m1 := ⟨v, nI T, er, nI 0, nW g, nW a, nW u, nW sl, nW kp, nI mm, nW P0, nW L0, sn, pv, nW r0, gn, vd, nI nd, x1, x2, x3, x4, x5, x6, x7, txt, txd⟩) (o := (vp_updL o 0 w.toInt64)) (As := [.int (xs (i + 1).toNatClampNeg)]) (rest := []) C (c_X8_encodedSymbol l dC dI Z.kI Z.kB Z.kZ Z.ma v (nI T) er th (nW g) (nW a) (nW u) (nW sl) (nW kp) (nI mm) (nW P0) (nW L0) sn pv (nW r0) gn vd (nI nd) x1 x2 x3 x4 x5 x6 x7 txt txd (xs (i + 1).toNatClampNeg) H.size _ e2) gL_law_X8_encodedSymbol qX8_encodedSymbol rfl ⟨(Nat.le_of_ble_eq_true rfl), (Nat.le_of_ble_eq_true rfl)⟩ ⟨rfl, rfl⟩ hP hD hS hl.1 rfl rfl (Nat.le_of_ble_eq_true rfl) dL_law_1680 ⟨by omega, by omega⟩ (fun H locs hP hD hS => ?_)
    refine lv_istore (lv' := [(6, .int w), (5, .int 0), (0, .ref b), (1, .ref (Z.ca 0)), (2, .ref (Z.ma 0)), (3, .ref Z.q), (4, .int i)]) C.hx C.hb dL_law_1683 hl (by decide) rfl (fun ls hl => ?_)
    refine lv_aload_n C.hx C.hb dL_law_1685 rfl (lv_at hl 4 rfl) ?_
    refine lqMo (z := nI 0) (c0 := ⟨nI T, er, nI nd, tp, fd, ee, oo, tt, rr, sw, hh, tx⟩) (m0 := ⟨v, nI T, er, nI 0, nW g, nW a, nW u, nW sl, nW kp, nI mm, nW P0, nW L0, sn, pv, nW r0, gn, vd, nI nd, x1, x2, x3, x4, x5, x6, x7, txt, txd⟩) (o := (vp_updL o 0 w.toInt64)) (As := []) (rest := []) C (c_X8_thrown l dC dI Z.kI Z.kB Z.kZ Z.ma v (nI T) er (nI 0) (nW g) (nW a) (nW u) (nW sl) (nW kp) (nI mm) (nW P0) (nW L0) sn pv (nW r0) gn vd (nI nd) x1 x2 x3 x4 x5 x6 x7 txt txd (nI 0) rfl) gL_law_X8_thrown qX8_thrown rfl ⟨(Nat.le_of_ble_eq_true rfl), (Nat.le_of_ble_eq_true rfl)⟩ ⟨rfl, rfl⟩ hP hD hS hl.1 rfl rfl (Nat.le_of_ble_eq_true rfl) dL_law_1686 ⟨by omega, by omega⟩ (fun H locs hP hD hS => ?_)
    refine lv_iload C.hx C.hb dL_law_1689 (lv_at hl 1 rfl) ?_
    refine lv_icmp_eq (tgt := 1696) C.hx C.hb dL_law_1691 (by decide) (fun _ => ?_) (fun h9 => absurd (by first | rfl | decide) h9)
    refine lv_iload C.hx C.hb dL_law_1696 (lv_at hl 1 rfl) ?_
    refine lv_if_ne (tgt := 1713) C.hx C.hb dL_law_1698 (by decide) (fun h9 => absurd rfl h9) (fun _ => ?_)
    refine lv_aload_n C.hx C.hb dL_law_1701 rfl (lv_at hl 5 rfl) ?_
    refine lv_iconst (v := 0) C.hx C.hb dL_law_1702 (by decide) ?_
    refine lq_o C hP dL_law_1703 ?_
    refine lv_iload C.hx C.hb dL_law_1704 (lv_at hl 0 rfl) ?_
    refine lv_i2l (v := w.toInt64) C.hx C.hb dL_law_1706 rfl ?_
    refine W.lcmp C.hx C.hb dL_law_1707 ?_
    refine lv_if_eq (tgt := 1713) C.hx C.hb dL_law_1708 (by decide) (fun _ => ?_) (fun h9 => absurd (cmp_self _) h9)
    refine lv_goto (tgt := 2318) C.hx C.hb dL_law_1713 (by decide) ?_
    exact KK ⟨nI T, er, nI nd, tp, fd, ee, oo, tt, rr, sw, hh, tx⟩ ⟨v, nI T, er, nI 0, nW g, nW a, nW u, nW sl, nW kp, nI mm, nW P0, nW L0, sn, pv, nW r0, gn, vd, nI nd, x1, x2, x3, x4, x5, x6, x7, txt, txd⟩ (vp_updL o 0 w.toInt64) H locs ls ⟨T, er, nd, tp, fd, ee, oo, tt, rr, sw, hh, tx, v, nI 0, g, a, u, sl, kp, mm, P0, L0, sn, pv, r0, gn, vd, x1, x2, x3, x4, x5, x6, x7, txt, txd, bb, rfl, rfl, hTP, hDD, hST, hOF⟩ hP hD hS (lv_sub hl [2, 3, 4, 5, 6] rfl)
  · refine lv_aload_n C.hx C.hb dL_law_1660 rfl (lv_at hl 1 rfl) ?_
    refine lv_aload_n C.hx C.hb dL_law_1661 rfl (lv_at hl 0 rfl) ?_
    refine lv_iload C.hx C.hb dL_law_1662 (lv_at hl 4 rfl) ?_
    refine lv_iconst (v := 1) C.hx C.hb dL_law_1664 (by decide) ?_
    refine lv_iadd C.hx C.hb dL_law_1665 ?_
    refine lq_x C hS hi1 dL_law_1666 ?_
    refine lv_aload_n C.hx C.hb dL_law_1667 rfl (lv_at hl 3 rfl) ?_
    refine lqL (r := 1) (c0 := ⟨nI T, er, nI nd, tp, fd, ee, oo, tt, rr, sw, hh, tx⟩) (c1 := ⟨nI T, er, nI nd, tp, fd, ee, oo, tt, rr, sw, hh, tx⟩) (m0 := ⟨v, nI T, er, th, nW g, nW a, nW u, nW sl, nW kp, nI mm, nW P0, nW L0, sn, pv, nW r0, gn, vd, nI nd, x1, x2, x3, x4, x5, x6, x7, txt, txd⟩) (o := o) (o1 := o) (As := [.ref (Z.ca 0), .int (xs (i + 1).toNatClampNeg), .ref Z.q]) (rest := []) C (c_L_encodedSymbol l C.hl0 dC dI K Z.kI Z.kE Z.kL Z.ca Z.a Z.b Z.oa Z.ob Z.ra Z.sa Z.ha Z.ux Z.uy tx (nI T) er (nI nd) tp fd ee oo tt rr sw hh (xs (i + 1).toNatClampNeg) Z.q o H.size _ e1 1 o (Or.inr ⟨rfl, rfl, rfl⟩)) gL_law_L_encodedSymbol qL_encodedSymbol rfl ⟨(Nat.le_of_ble_eq_true rfl), (Nat.le_of_ble_eq_true rfl)⟩ ⟨rfl, rfl⟩ hP hD hS hl.1 rfl rfl (Nat.le_of_ble_eq_true rfl) dL_law_1668 ⟨by omega, by omega⟩ (fun H locs hP hD hS => ?_)
    refine W.widen (k := cells + 8) (n := slots + 48) (by omega) (by omega) ?_
    refine lv_istore (lv' := [(5, .int 1), (0, .ref b), (1, .ref (Z.ca 0)), (2, .ref (Z.ma 0)), (3, .ref Z.q), (4, .int i)]) C.hx C.hb dL_law_1671 hl (by decide) rfl (fun ls hl => ?_)
    refine lv_aload_n C.hx C.hb dL_law_1673 rfl (lv_at hl 3 rfl) ?_
    refine lv_aload_n C.hx C.hb dL_law_1674 rfl (lv_at hl 1 rfl) ?_
    refine lv_iload C.hx C.hb dL_law_1675 (lv_at hl 5 rfl) ?_
    refine lv_iconst (v := 1) C.hx C.hb dL_law_1677 (by decide) ?_
    refine lv_iadd C.hx C.hb dL_law_1678 ?_
    refine lq_x C hS hi1 dL_law_1679 ?_
    refine lqMi (z := nI 0) (c0 := ⟨nI T, er, nI nd, tp, fd, ee, oo, tt, rr, sw, hh, tx⟩) (m0 := ⟨v, nI T, er, th, nW g, nW a, nW u, nW sl, nW kp, nI mm, nW P0, nW L0, sn, pv, nW r0, gn, vd, nI nd, x1, x2, x3, x4, x5, x6, x7, txt, txd⟩) (m1 := ⟨v, nI T, er, nI 1, nW g, nW a, nW u, nW sl, nW kp, nI mm, nW P0, nW L0, sn, pv, nW r0, gn, vd, nI nd, x1, x2, x3, x4, x5, x6, x7, txt, txd⟩) (o := o) (As := [.int (xs (i + 1).toNatClampNeg)]) (rest := []) C (c_X8_encodedSymbol l dC dI Z.kI Z.kB Z.kZ Z.ma v (nI T) er th (nW g) (nW a) (nW u) (nW sl) (nW kp) (nI mm) (nW P0) (nW L0) sn pv (nW r0) gn vd (nI nd) x1 x2 x3 x4 x5 x6 x7 txt txd (xs (i + 1).toNatClampNeg) H.size _ e2) gL_law_X8_encodedSymbol qX8_encodedSymbol rfl ⟨(Nat.le_of_ble_eq_true rfl), (Nat.le_of_ble_eq_true rfl)⟩ ⟨rfl, rfl⟩ hP hD hS hl.1 rfl rfl (Nat.le_of_ble_eq_true rfl) dL_law_1680 ⟨by omega, by omega⟩ (fun H locs hP hD hS => ?_)
    refine lv_istore (lv' := [(6, .int (nI 0)), (5, .int 1), (0, .ref b), (1, .ref (Z.ca 0)), (2, .ref (Z.ma 0)), (3, .ref Z.q), (4, .int i)]) C.hx C.hb dL_law_1683 hl (by decide) rfl (fun ls hl => ?_)
    refine lv_aload_n C.hx C.hb dL_law_1685 rfl (lv_at hl 4 rfl) ?_
    refine lqMo (z := nI 1) (c0 := ⟨nI T, er, nI nd, tp, fd, ee, oo, tt, rr, sw, hh, tx⟩) (m0 := ⟨v, nI T, er, nI 1, nW g, nW a, nW u, nW sl, nW kp, nI mm, nW P0, nW L0, sn, pv, nW r0, gn, vd, nI nd, x1, x2, x3, x4, x5, x6, x7, txt, txd⟩) (o := o) (As := []) (rest := []) C (c_X8_thrown l dC dI Z.kI Z.kB Z.kZ Z.ma v (nI T) er (nI 1) (nW g) (nW a) (nW u) (nW sl) (nW kp) (nI mm) (nW P0) (nW L0) sn pv (nW r0) gn vd (nI nd) x1 x2 x3 x4 x5 x6 x7 txt txd (nI 1) rfl) gL_law_X8_thrown qX8_thrown rfl ⟨(Nat.le_of_ble_eq_true rfl), (Nat.le_of_ble_eq_true rfl)⟩ ⟨rfl, rfl⟩ hP hD hS hl.1 rfl rfl (Nat.le_of_ble_eq_true rfl) dL_law_1686 ⟨by omega, by omega⟩ (fun H locs hP hD hS => ?_)
    refine lv_iload C.hx C.hb dL_law_1689 (lv_at hl 1 rfl) ?_
    refine lv_icmp_eq (tgt := 1696) C.hx C.hb dL_law_1691 (by decide) (fun _ => ?_) (fun h9 => absurd (by first | rfl | decide) h9)
    refine lv_iload C.hx C.hb dL_law_1696 (lv_at hl 1 rfl) ?_
    refine lv_if_ne (tgt := 1713) C.hx C.hb dL_law_1698 (by decide) (fun _ => ?_) (fun h9 => absurd h9 (by decide))
    refine lv_goto (tgt := 2318) C.hx C.hb dL_law_1713 (by decide) ?_
    exact KK ⟨nI T, er, nI nd, tp, fd, ee, oo, tt, rr, sw, hh, tx⟩ ⟨v, nI T, er, nI 1, nW g, nW a, nW u, nW sl, nW kp, nI mm, nW P0, nW L0, sn, pv, nW r0, gn, vd, nI nd, x1, x2, x3, x4, x5, x6, x7, txt, txd⟩ o H locs ls ⟨T, er, nd, tp, fd, ee, oo, tt, rr, sw, hh, tx, v, nI 1, g, a, u, sl, kp, mm, P0, L0, sn, pv, r0, gn, vd, x1, x2, x3, x4, x5, x6, x7, txt, txd, bb, rfl, rfl, hTP, hDD, hST, hOF⟩ hP hD hS (lv_sub hl [2, 3, 4, 5, 6] rfl)
set_option maxHeartbeats 4000000 in
set_option maxRecDepth 100000 in
theorem lc_38 (C : LC p l s m args c A0 K dC dI Z b L xs) (hf : 20000 ≤ fu) (hR : REL c0 m0) (hP : va_P (dC, dI) vwCl (LW Z c0 m0 o) H) (hD : va_D A0 (LW Z c0 m0 o)) (hS : va_S A0 s.heap H locs) (hl : lv_has ls 9 [(0, .ref b), (1, .ref (Z.ca 0)), (2, .ref (Z.ma 0)), (3, .ref Z.q), (4, .int i)])  (hcl : cells + 8 ≤ room_1.cells ∧ slots + 48 ≤ room_1.slots) (KK : LKK p l e s m args below meth c (cells + 8) (slots + 48) Q A0 dC dI Z b i) : W p l e room_1 s m args below meth c H locs cells slots Q (F0 m 1716 ls []) := by
  obtain ⟨hc1, hc2⟩ := hcl
  obtain ⟨T, er, nd, tp, fd, ee, oo, tt, rr, sw, hh, tx, v, th, g, a, u, sl, kp, mm, P0, L0, sn, pv, r0, gn, vd, x1, x2, x3, x4, x5, x6, x7, txt, txd, bb, rfl, rfl, hTP, hDD, hST, hOF⟩ := hR
  have hRE := hST.1
  have hG := hST.2.1
  obtain ⟨w, e1, e2⟩ := (t_looks0 fu hf th hRE hG).2.2.2.2.2.2.2.1
  refine lv_aload_n C.hx C.hb dL_law_1716 rfl (lv_at hl 1 rfl) ?_
  refine lqRi (z := w) (c0 := ⟨nI T, er, nI nd, tp, fd, ee, oo, tt, rr, sw, hh, tx⟩) (m0 := ⟨v, nI T, er, th, nW g, nW a, nW u, nW sl, nW kp, nI mm, nW P0, nW L0, sn, pv, nW r0, gn, vd, nI nd, x1, x2, x3, x4, x5, x6, x7, txt, txd⟩) (o := o) (As := []) (rest := []) C (c_X7_writtenCount l dC dI Z.kI Z.kE Z.ca Z.a Z.b Z.oa Z.ob Z.ra Z.sa Z.ha Z.ux Z.uy tx (nI T) er (nI nd) tp fd ee oo tt rr sw hh _ e1) gL_law_X7_writtenCount qX7_writtenCount rfl ⟨(Nat.le_of_ble_eq_true rfl), (Nat.le_of_ble_eq_true rfl)⟩ ⟨rfl, rfl⟩ hP hD hS hl.1 rfl rfl (Nat.le_of_ble_eq_true rfl) dL_law_1717 ⟨by omega, by omega⟩ (fun H locs hP hD hS => ?_)
  refine lv_aload_n C.hx C.hb dL_law_1720 rfl (lv_at hl 2 rfl) ?_
  refine lqMi (z := w) (c0 := ⟨nI T, er, nI nd, tp, fd, ee, oo, tt, rr, sw, hh, tx⟩) (m0 := ⟨v, nI T, er, th, nW g, nW a, nW u, nW sl, nW kp, nI mm, nW P0, nW L0, sn, pv, nW r0, gn, vd, nI nd, x1, x2, x3, x4, x5, x6, x7, txt, txd⟩) (m1 := ⟨v, nI T, er, nI 0, nW g, nW a, nW u, nW sl, nW kp, nI mm, nW P0, nW L0, sn, pv, nW r0, gn, vd, nI nd, x1, x2, x3, x4, x5, x6, x7, txt, txd⟩) (o := o) (As := []) (rest := [.int w]) C (c_X8_writtenCount l dC dI Z.kI Z.kB Z.kZ Z.ma v (nI T) er th (nW g) (nW a) (nW u) (nW sl) (nW kp) (nI mm) (nW P0) (nW L0) sn pv (nW r0) gn vd (nI nd) x1 x2 x3 x4 x5 x6 x7 txt txd H.size _ e2) gL_law_X8_writtenCount qX8_writtenCount rfl ⟨(Nat.le_of_ble_eq_true rfl), (Nat.le_of_ble_eq_true rfl)⟩ ⟨rfl, rfl⟩ hP hD hS hl.1 rfl rfl (Nat.le_of_ble_eq_true rfl) dL_law_1721 ⟨by omega, by omega⟩ (fun H locs hP hD hS => ?_)
  refine lv_icmp_eq (tgt := 2318) C.hx C.hb dL_law_1724 (by decide) (fun _ => ?_) (fun h9 => absurd (by first | rfl | decide) h9)
  refine W.widen (k := cells + 8) (n := slots + 48) (by omega) (by omega) ?_
  exact KK ⟨nI T, er, nI nd, tp, fd, ee, oo, tt, rr, sw, hh, tx⟩ ⟨v, nI T, er, nI 0, nW g, nW a, nW u, nW sl, nW kp, nI mm, nW P0, nW L0, sn, pv, nW r0, gn, vd, nI nd, x1, x2, x3, x4, x5, x6, x7, txt, txd⟩ o H locs ls ⟨T, er, nd, tp, fd, ee, oo, tt, rr, sw, hh, tx, v, nI 0, g, a, u, sl, kp, mm, P0, L0, sn, pv, r0, gn, vd, x1, x2, x3, x4, x5, x6, x7, txt, txd, bb, rfl, rfl, hTP, hDD, hST, hOF⟩ hP hD hS (lv_sub hl [0, 1, 2, 3, 4] rfl)
set_option maxHeartbeats 4000000 in
set_option maxRecDepth 100000 in
theorem lc_39 (C : LC p l s m args c A0 K dC dI Z b L xs) (hf : 20000 ≤ fu) (hR : REL c0 m0) (hP : va_P (dC, dI) vwCl (LW Z c0 m0 o) H) (hD : va_D A0 (LW Z c0 m0 o)) (hS : va_S A0 s.heap H locs) (hl : lv_has ls 9 [(0, .ref b), (1, .ref (Z.ca 0)), (2, .ref (Z.ma 0)), (3, .ref Z.q), (4, .int i)]) (hi1 : vp_in (i + 1) L) (hcl : cells + 8 ≤ room_1.cells ∧ slots + 48 ≤ room_1.slots) (KK : LKK p l e s m args below meth c (cells + 8) (slots + 48) Q A0 dC dI Z b i) : W p l e room_1 s m args below meth c H locs cells slots Q (F0 m 1729 ls []) := by
  obtain ⟨hc1, hc2⟩ := hcl
  obtain ⟨T, er, nd, tp, fd, ee, oo, tt, rr, sw, hh, tx, v, th, g, a, u, sl, kp, mm, P0, L0, sn, pv, r0, gn, vd, x1, x2, x3, x4, x5, x6, x7, txt, txd, bb, rfl, rfl, hTP, hDD, hST, hOF⟩ := hR
  have hRE := hST.1
  have hG := hST.2.1
  rcases (t_written th hRE hG (xs (i + 1).toNatClampNeg)).1 with ⟨w, e1, e2⟩ | ⟨e1, e2⟩
  · refine lv_aload_n C.hx C.hb dL_law_1729 rfl (lv_at hl 1 rfl) ?_
    refine lv_aload_n C.hx C.hb dL_law_1730 rfl (lv_at hl 0 rfl) ?_
    refine lv_iload C.hx C.hb dL_law_1731 (lv_at hl 4 rfl) ?_
    refine lv_iconst (v := 1) C.hx C.hb dL_law_1733 (by decide) ?_
    refine lv_iadd C.hx C.hb dL_law_1734 ?_
    refine lq_x C hS hi1 dL_law_1735 ?_
    refine lv_aload_n C.hx C.hb dL_law_1736 rfl (lv_at hl 3 rfl) ?_
    refine lqL (r := 0) (c0 := ⟨nI T, er, nI nd, tp, fd, ee, oo, tt, rr, sw, hh, tx⟩) (c1 := ⟨nI T, er, nI nd, tp, fd, ee, oo, tt, rr, sw, hh, tx⟩) (m0 := ⟨v, nI T, er, th, nW g, nW a, nW u, nW sl, nW kp, nI mm, nW P0, nW L0, sn, pv, nW r0, gn, vd, nI nd, x1, x2, x3, x4, x5, x6, x7, txt, txd⟩) (o := o) (o1 := (vp_updL o 0 w.toInt64)) (As := [.ref (Z.ca 0), .int (xs (i + 1).toNatClampNeg), .ref Z.q]) (rest := []) C (c_L_writtenCode l C.hl0 dC dI K Z.kI Z.kE Z.kL Z.ca Z.a Z.b Z.oa Z.ob Z.ra Z.sa Z.ha Z.ux Z.uy tx (nI T) er (nI nd) tp fd ee oo tt rr sw hh (xs (i + 1).toNatClampNeg) Z.q o H.size _ e1 0 (vp_updL o 0 w.toInt64) (Or.inl ⟨w, rfl, rfl, rfl⟩)) gL_law_L_writtenCode qL_writtenCode rfl ⟨(Nat.le_of_ble_eq_true rfl), (Nat.le_of_ble_eq_true rfl)⟩ ⟨rfl, rfl⟩ hP hD hS hl.1 rfl rfl (Nat.le_of_ble_eq_true rfl) dL_law_1737 ⟨by omega, by omega⟩ (fun H locs hP hD hS => ?_)
    refine W.widen (k := cells + 8) (n := slots + 48) (by omega) (by omega) ?_
    refine lv_istore (lv' := [(5, .int 0), (0, .ref b), (1, .ref (Z.ca 0)), (2, .ref (Z.ma 0)), (3, .ref Z.q), (4, .int i)]) C.hx C.hb dL_law_1740 hl (by decide) rfl (fun ls hl => ?_)
    refine lv_aload_n C.hx C.hb dL_law_1742 rfl (lv_at hl 3 rfl) ?_
    refine lv_aload_n C.hx C.hb dL_law_1743 rfl (lv_at hl 1 rfl) ?_
    refine lv_iload C.hx C.hb dL_law_1744 (lv_at hl 5 rfl) ?_
    refine lv_iconst (v := 1) C.hx C.hb dL_law_1746 (by decide) ?_
    refine lv_iadd C.hx C.hb dL_law_1747 ?_
    refine lq_x C hS hi1 dL_law_1748 ?_
    refine lqMi (z := w) (c0 := ⟨nI T, er, nI nd, tp, fd, ee, oo, tt, rr, sw, hh, tx⟩) (m0 := ⟨v, nI T, er, th, nW g, nW a, nW u, nW sl, nW kp, nI mm, nW P0, nW L0, sn, pv, nW r0, gn, vd, nI nd, x1, x2, x3, x4, x5, x6, x7, txt, txd⟩) (m1 := ⟨v, nI T, er, nI 0, nW g, nW a, nW u, nW sl, nW kp, nI mm, nW P0, nW L0, sn, pv, nW r0, gn, vd, nI nd, x1, x2, x3, x4, x5, x6, x7, txt, txd⟩) (o := (vp_updL o 0 w.toInt64)) (As := [.int (xs (i + 1).toNatClampNeg)]) (rest := []) C (c_X8_writtenCode l dC dI Z.kI Z.kB Z.kZ Z.ma v (nI T) er th (nW g) (nW a) (nW u) (nW sl) (nW kp) (nI mm) (nW P0) (nW L0) sn pv (nW r0) gn vd (nI nd) x1 x2 x3 x4 x5 x6 x7 txt txd (xs (i + 1).toNatClampNeg) H.size _ e2) gL_law_X8_writtenCode qX8_writtenCode rfl ⟨(Nat.le_of_ble_eq_true rfl), (Nat.le_of_ble_eq_true rfl)⟩ ⟨rfl, rfl⟩ hP hD hS hl.1 rfl rfl (Nat.le_of_ble_eq_true rfl) dL_law_1749 ⟨by omega, by omega⟩ (fun H locs hP hD hS => ?_)
    refine lv_istore (lv' := [(6, .int w), (5, .int 0), (0, .ref b), (1, .ref (Z.ca 0)), (2, .ref (Z.ma 0)), (3, .ref Z.q), (4, .int i)]) C.hx C.hb dL_law_1752 hl (by decide) rfl (fun ls hl => ?_)
    refine lv_aload_n C.hx C.hb dL_law_1754 rfl (lv_at hl 4 rfl) ?_
    refine lqMo (z := nI 0) (c0 := ⟨nI T, er, nI nd, tp, fd, ee, oo, tt, rr, sw, hh, tx⟩) (m0 := ⟨v, nI T, er, nI 0, nW g, nW a, nW u, nW sl, nW kp, nI mm, nW P0, nW L0, sn, pv, nW r0, gn, vd, nI nd, x1, x2, x3, x4, x5, x6, x7, txt, txd⟩) (o := (vp_updL o 0 w.toInt64)) (As := []) (rest := []) C (c_X8_thrown l dC dI Z.kI Z.kB Z.kZ Z.ma v (nI T) er (nI 0) (nW g) (nW a) (nW u) (nW sl) (nW kp) (nI mm) (nW P0) (nW L0) sn pv (nW r0) gn vd (nI nd) x1 x2 x3 x4 x5 x6 x7 txt txd (nI 0) rfl) gL_law_X8_thrown qX8_thrown rfl ⟨(Nat.le_of_ble_eq_true rfl), (Nat.le_of_ble_eq_true rfl)⟩ ⟨rfl, rfl⟩ hP hD hS hl.1 rfl rfl (Nat.le_of_ble_eq_true rfl) dL_law_1755 ⟨by omega, by omega⟩ (fun H locs hP hD hS => ?_)
    refine lv_iload C.hx C.hb dL_law_1758 (lv_at hl 1 rfl) ?_
    refine lv_icmp_eq (tgt := 1765) C.hx C.hb dL_law_1760 (by decide) (fun _ => ?_) (fun h9 => absurd (by first | rfl | decide) h9)
    refine lv_iload C.hx C.hb dL_law_1765 (lv_at hl 1 rfl) ?_
    refine lv_if_ne (tgt := 1782) C.hx C.hb dL_law_1767 (by decide) (fun h9 => absurd rfl h9) (fun _ => ?_)
    refine lv_aload_n C.hx C.hb dL_law_1770 rfl (lv_at hl 5 rfl) ?_
    refine lv_iconst (v := 0) C.hx C.hb dL_law_1771 (by decide) ?_
    refine lq_o C hP dL_law_1772 ?_
    refine lv_iload C.hx C.hb dL_law_1773 (lv_at hl 0 rfl) ?_
    refine lv_i2l (v := w.toInt64) C.hx C.hb dL_law_1775 rfl ?_
    refine W.lcmp C.hx C.hb dL_law_1776 ?_
    refine lv_if_eq (tgt := 1782) C.hx C.hb dL_law_1777 (by decide) (fun _ => ?_) (fun h9 => absurd (cmp_self _) h9)
    refine lv_goto (tgt := 2318) C.hx C.hb dL_law_1782 (by decide) ?_
    exact KK ⟨nI T, er, nI nd, tp, fd, ee, oo, tt, rr, sw, hh, tx⟩ ⟨v, nI T, er, nI 0, nW g, nW a, nW u, nW sl, nW kp, nI mm, nW P0, nW L0, sn, pv, nW r0, gn, vd, nI nd, x1, x2, x3, x4, x5, x6, x7, txt, txd⟩ (vp_updL o 0 w.toInt64) H locs ls ⟨T, er, nd, tp, fd, ee, oo, tt, rr, sw, hh, tx, v, nI 0, g, a, u, sl, kp, mm, P0, L0, sn, pv, r0, gn, vd, x1, x2, x3, x4, x5, x6, x7, txt, txd, bb, rfl, rfl, hTP, hDD, hST, hOF⟩ hP hD hS (lv_sub hl [2, 3, 4, 5, 6] rfl)
  · refine lv_aload_n C.hx C.hb dL_law_1729 rfl (lv_at hl 1 rfl) ?_
    refine lv_aload_n C.hx C.hb dL_law_1730 rfl (lv_at hl 0 rfl) ?_
    refine lv_iload C.hx C.hb dL_law_1731 (lv_at hl 4 rfl) ?_
    refine lv_iconst (v := 1) C.hx C.hb dL_law_1733 (by decide) ?_
    refine lv_iadd C.hx C.hb dL_law_1734 ?_
    refine lq_x C hS hi1 dL_law_1735 ?_
    refine lv_aload_n C.hx C.hb dL_law_1736 rfl (lv_at hl 3 rfl) ?_
    refine lqL (r := 1) (c0 := ⟨nI T, er, nI nd, tp, fd, ee, oo, tt, rr, sw, hh, tx⟩) (c1 := ⟨nI T, er, nI nd, tp, fd, ee, oo, tt, rr, sw, hh, tx⟩) (m0 := ⟨v, nI T, er, th, nW g, nW a, nW u, nW sl, nW kp, nI mm, nW P0, nW L0, sn, pv, nW r0, gn, vd, nI nd, x1, x2, x3, x4, x5, x6, x7, txt, txd⟩) (o := o) (o1 := o) (As := [.ref (Z.ca 0), .int (xs (i + 1).toNatClampNeg), .ref Z.q]) (rest := []) C (c_L_writtenCode l C.hl0 dC dI K Z.kI Z.kE Z.kL Z.ca Z.a Z.b Z.oa Z.ob Z.ra Z.sa Z.ha Z.ux Z.uy tx (nI T) er (nI nd) tp fd ee oo tt rr sw hh (xs (i + 1).toNatClampNeg) Z.q o H.size _ e1 1 o (Or.inr ⟨rfl, rfl, rfl⟩)) gL_law_L_writtenCode qL_writtenCode rfl ⟨(Nat.le_of_ble_eq_true rfl), (Nat.le_of_ble_eq_true rfl)⟩ ⟨rfl, rfl⟩ hP hD hS hl.1 rfl rfl (Nat.le_of_ble_eq_true rfl) dL_law_1737 ⟨by omega, by omega⟩ (fun H locs hP hD hS => ?_)
    refine W.widen (k := cells + 8) (n := slots + 48) (by omega) (by omega) ?_
    refine lv_istore (lv' := [(5, .int 1), (0, .ref b), (1, .ref (Z.ca 0)), (2, .ref (Z.ma 0)), (3, .ref Z.q), (4, .int i)]) C.hx C.hb dL_law_1740 hl (by decide) rfl (fun ls hl => ?_)
    refine lv_aload_n C.hx C.hb dL_law_1742 rfl (lv_at hl 3 rfl) ?_
    refine lv_aload_n C.hx C.hb dL_law_1743 rfl (lv_at hl 1 rfl) ?_
    refine lv_iload C.hx C.hb dL_law_1744 (lv_at hl 5 rfl) ?_
    refine lv_iconst (v := 1) C.hx C.hb dL_law_1746 (by decide) ?_
    refine lv_iadd C.hx C.hb dL_law_1747 ?_
    refine lq_x C hS hi1 dL_law_1748 ?_
    refine lqMi (z := nI 0) (c0 := ⟨nI T, er, nI nd, tp, fd, ee, oo, tt, rr, sw, hh, tx⟩) (m0 := ⟨v, nI T, er, th, nW g, nW a, nW u, nW sl, nW kp, nI mm, nW P0, nW L0, sn, pv, nW r0, gn, vd, nI nd, x1, x2, x3, x4, x5, x6, x7, txt, txd⟩) (m1 := ⟨v, nI T, er, nI 1, nW g, nW a, nW u, nW sl, nW kp, nI mm, nW P0, nW L0, sn, pv, nW r0, gn, vd, nI nd, x1, x2, x3, x4, x5, x6, x7, txt, txd⟩) (o := o) (As := [.int (xs (i + 1).toNatClampNeg)]) (rest := []) C (c_X8_writtenCode l dC dI Z.kI Z.kB Z.kZ Z.ma v (nI T) er th (nW g) (nW a) (nW u) (nW sl) (nW kp) (nI mm) (nW P0) (nW L0) sn pv (nW r0) gn vd (nI nd) x1 x2 x3 x4 x5 x6 x7 txt txd (xs (i + 1).toNatClampNeg) H.size _ e2) gL_law_X8_writtenCode qX8_writtenCode rfl ⟨(Nat.le_of_ble_eq_true rfl), (Nat.le_of_ble_eq_true rfl)⟩ ⟨rfl, rfl⟩ hP hD hS hl.1 rfl rfl (Nat.le_of_ble_eq_true rfl) dL_law_1749 ⟨by omega, by omega⟩ (fun H locs hP hD hS => ?_)
    refine lv_istore (lv' := [(6, .int (nI 0)), (5, .int 1), (0, .ref b), (1, .ref (Z.ca 0)), (2, .ref (Z.ma 0)), (3, .ref Z.q), (4, .int i)]) C.hx C.hb dL_law_1752 hl (by decide) rfl (fun ls hl => ?_)
    refine lv_aload_n C.hx C.hb dL_law_1754 rfl (lv_at hl 4 rfl) ?_
    refine lqMo (z := nI 1) (c0 := ⟨nI T, er, nI nd, tp, fd, ee, oo, tt, rr, sw, hh, tx⟩) (m0 := ⟨v, nI T, er, nI 1, nW g, nW a, nW u, nW sl, nW kp, nI mm, nW P0, nW L0, sn, pv, nW r0, gn, vd, nI nd, x1, x2, x3, x4, x5, x6, x7, txt, txd⟩) (o := o) (As := []) (rest := []) C (c_X8_thrown l dC dI Z.kI Z.kB Z.kZ Z.ma v (nI T) er (nI 1) (nW g) (nW a) (nW u) (nW sl) (nW kp) (nI mm) (nW P0) (nW L0) sn pv (nW r0) gn vd (nI nd) x1 x2 x3 x4 x5 x6 x7 txt txd (nI 1) rfl) gL_law_X8_thrown qX8_thrown rfl ⟨(Nat.le_of_ble_eq_true rfl), (Nat.le_of_ble_eq_true rfl)⟩ ⟨rfl, rfl⟩ hP hD hS hl.1 rfl rfl (Nat.le_of_ble_eq_true rfl) dL_law_1755 ⟨by omega, by omega⟩ (fun H locs hP hD hS => ?_)
    refine lv_iload C.hx C.hb dL_law_1758 (lv_at hl 1 rfl) ?_
    refine lv_icmp_eq (tgt := 1765) C.hx C.hb dL_law_1760 (by decide) (fun _ => ?_) (fun h9 => absurd (by first | rfl | decide) h9)
    refine lv_iload C.hx C.hb dL_law_1765 (lv_at hl 1 rfl) ?_
    refine lv_if_ne (tgt := 1782) C.hx C.hb dL_law_1767 (by decide) (fun _ => ?_) (fun h9 => absurd h9 (by decide))
    refine lv_goto (tgt := 2318) C.hx C.hb dL_law_1782 (by decide) ?_
    exact KK ⟨nI T, er, nI nd, tp, fd, ee, oo, tt, rr, sw, hh, tx⟩ ⟨v, nI T, er, nI 1, nW g, nW a, nW u, nW sl, nW kp, nI mm, nW P0, nW L0, sn, pv, nW r0, gn, vd, nI nd, x1, x2, x3, x4, x5, x6, x7, txt, txd⟩ o H locs ls ⟨T, er, nd, tp, fd, ee, oo, tt, rr, sw, hh, tx, v, nI 1, g, a, u, sl, kp, mm, P0, L0, sn, pv, r0, gn, vd, x1, x2, x3, x4, x5, x6, x7, txt, txd, bb, rfl, rfl, hTP, hDD, hST, hOF⟩ hP hD hS (lv_sub hl [2, 3, 4, 5, 6] rfl)
set_option maxHeartbeats 4000000 in
set_option maxRecDepth 100000 in
theorem lc_40 (C : LC p l s m args c A0 K dC dI Z b L xs) (hf : 20000 ≤ fu) (hR : REL c0 m0) (hP : va_P (dC, dI) vwCl (LW Z c0 m0 o) H) (hD : va_D A0 (LW Z c0 m0 o)) (hS : va_S A0 s.heap H locs) (hl : lv_has ls 9 [(0, .ref b), (1, .ref (Z.ca 0)), (2, .ref (Z.ma 0)), (3, .ref Z.q), (4, .int i)]) (hi1 : vp_in (i + 1) L) (hcl : cells + 8 ≤ room_1.cells ∧ slots + 48 ≤ room_1.slots) (KK : LKK p l e s m args below meth c (cells + 8) (slots + 48) Q A0 dC dI Z b i) : W p l e room_1 s m args below meth c H locs cells slots Q (F0 m 1785 ls []) := by
  obtain ⟨hc1, hc2⟩ := hcl
  obtain ⟨T, er, nd, tp, fd, ee, oo, tt, rr, sw, hh, tx, v, th, g, a, u, sl, kp, mm, P0, L0, sn, pv, r0, gn, vd, x1, x2, x3, x4, x5, x6, x7, txt, txd, bb, rfl, rfl, hTP, hDD, hST, hOF⟩ := hR
  have hRE := hST.1
  have hG := hST.2.1
  rcases (t_written th hRE hG (xs (i + 1).toNatClampNeg)).2 with ⟨w, e1, e2⟩ | ⟨e1, e2⟩
  · refine lv_aload_n C.hx C.hb dL_law_1785 rfl (lv_at hl 1 rfl) ?_
    refine lv_aload_n C.hx C.hb dL_law_1786 rfl (lv_at hl 0 rfl) ?_
    refine lv_iload C.hx C.hb dL_law_1787 (lv_at hl 4 rfl) ?_
    refine lv_iconst (v := 1) C.hx C.hb dL_law_1789 (by decide) ?_
    refine lv_iadd C.hx C.hb dL_law_1790 ?_
    refine lq_x C hS hi1 dL_law_1791 ?_
    refine lv_aload_n C.hx C.hb dL_law_1792 rfl (lv_at hl 3 rfl) ?_
    refine lqL (r := 0) (c0 := ⟨nI T, er, nI nd, tp, fd, ee, oo, tt, rr, sw, hh, tx⟩) (c1 := ⟨nI T, er, nI nd, tp, fd, ee, oo, tt, rr, sw, hh, tx⟩) (m0 := ⟨v, nI T, er, th, nW g, nW a, nW u, nW sl, nW kp, nI mm, nW P0, nW L0, sn, pv, nW r0, gn, vd, nI nd, x1, x2, x3, x4, x5, x6, x7, txt, txd⟩) (o := o) (o1 := (vp_updL o 0 w.toInt64)) (As := [.ref (Z.ca 0), .int (xs (i + 1).toNatClampNeg), .ref Z.q]) (rest := []) C (c_L_writtenWidth l C.hl0 dC dI K Z.kI Z.kE Z.kL Z.ca Z.a Z.b Z.oa Z.ob Z.ra Z.sa Z.ha Z.ux Z.uy tx (nI T) er (nI nd) tp fd ee oo tt rr sw hh (xs (i + 1).toNatClampNeg) Z.q o H.size _ e1 0 (vp_updL o 0 w.toInt64) (Or.inl ⟨w, rfl, rfl, rfl⟩)) gL_law_L_writtenWidth qL_writtenWidth rfl ⟨(Nat.le_of_ble_eq_true rfl), (Nat.le_of_ble_eq_true rfl)⟩ ⟨rfl, rfl⟩ hP hD hS hl.1 rfl rfl (Nat.le_of_ble_eq_true rfl) dL_law_1793 ⟨by omega, by omega⟩ (fun H locs hP hD hS => ?_)
    refine W.widen (k := cells + 8) (n := slots + 48) (by omega) (by omega) ?_
    refine lv_istore (lv' := [(5, .int 0), (0, .ref b), (1, .ref (Z.ca 0)), (2, .ref (Z.ma 0)), (3, .ref Z.q), (4, .int i)]) C.hx C.hb dL_law_1796 hl (by decide) rfl (fun ls hl => ?_)
    refine lv_aload_n C.hx C.hb dL_law_1798 rfl (lv_at hl 3 rfl) ?_
    refine lv_aload_n C.hx C.hb dL_law_1799 rfl (lv_at hl 1 rfl) ?_
    refine lv_iload C.hx C.hb dL_law_1800 (lv_at hl 5 rfl) ?_
    refine lv_iconst (v := 1) C.hx C.hb dL_law_1802 (by decide) ?_
    refine lv_iadd C.hx C.hb dL_law_1803 ?_
    refine lq_x C hS hi1 dL_law_1804 ?_
    refine lqMi (z := w) (c0 := ⟨nI T, er, nI nd, tp, fd, ee, oo, tt, rr, sw, hh, tx⟩) (m0 := ⟨v, nI T, er, th, nW g, nW a, nW u, nW sl, nW kp, nI mm, nW P0, nW L0, sn, pv, nW r0, gn, vd, nI nd, x1, x2, x3, x4, x5, x6, x7, txt, txd⟩) (m1 := ⟨v, nI T, er, nI 0, nW g, nW a, nW u, nW sl, nW kp, nI mm, nW P0, nW L0, sn, pv, nW r0, gn, vd, nI nd, x1, x2, x3, x4, x5, x6, x7, txt, txd⟩) (o := (vp_updL o 0 w.toInt64)) (As := [.int (xs (i + 1).toNatClampNeg)]) (rest := []) C (c_X8_writtenWidth l dC dI Z.kI Z.kB Z.kZ Z.ma v (nI T) er th (nW g) (nW a) (nW u) (nW sl) (nW kp) (nI mm) (nW P0) (nW L0) sn pv (nW r0) gn vd (nI nd) x1 x2 x3 x4 x5 x6 x7 txt txd (xs (i + 1).toNatClampNeg) H.size _ e2) gL_law_X8_writtenWidth qX8_writtenWidth rfl ⟨(Nat.le_of_ble_eq_true rfl), (Nat.le_of_ble_eq_true rfl)⟩ ⟨rfl, rfl⟩ hP hD hS hl.1 rfl rfl (Nat.le_of_ble_eq_true rfl) dL_law_1805 ⟨by omega, by omega⟩ (fun H locs hP hD hS => ?_)
    refine lv_istore (lv' := [(6, .int w), (5, .int 0), (0, .ref b), (1, .ref (Z.ca 0)), (2, .ref (Z.ma 0)), (3, .ref Z.q), (4, .int i)]) C.hx C.hb dL_law_1808 hl (by decide) rfl (fun ls hl => ?_)
    refine lv_aload_n C.hx C.hb dL_law_1810 rfl (lv_at hl 4 rfl) ?_
    refine lqMo (z := nI 0) (c0 := ⟨nI T, er, nI nd, tp, fd, ee, oo, tt, rr, sw, hh, tx⟩) (m0 := ⟨v, nI T, er, nI 0, nW g, nW a, nW u, nW sl, nW kp, nI mm, nW P0, nW L0, sn, pv, nW r0, gn, vd, nI nd, x1, x2, x3, x4, x5, x6, x7, txt, txd⟩) (o := (vp_updL o 0 w.toInt64)) (As := []) (rest := []) C (c_X8_thrown l dC dI Z.kI Z.kB Z.kZ Z.ma v (nI T) er (nI 0) (nW g) (nW a) (nW u) (nW sl) (nW kp) (nI mm) (nW P0) (nW L0) sn pv (nW r0) gn vd (nI nd) x1 x2 x3 x4 x5 x6 x7 txt txd (nI 0) rfl) gL_law_X8_thrown qX8_thrown rfl ⟨(Nat.le_of_ble_eq_true rfl), (Nat.le_of_ble_eq_true rfl)⟩ ⟨rfl, rfl⟩ hP hD hS hl.1 rfl rfl (Nat.le_of_ble_eq_true rfl) dL_law_1811 ⟨by omega, by omega⟩ (fun H locs hP hD hS => ?_)
    refine lv_iload C.hx C.hb dL_law_1814 (lv_at hl 1 rfl) ?_
    refine lv_icmp_eq (tgt := 1821) C.hx C.hb dL_law_1816 (by decide) (fun _ => ?_) (fun h9 => absurd (by first | rfl | decide) h9)
    refine lv_iload C.hx C.hb dL_law_1821 (lv_at hl 1 rfl) ?_
    refine lv_if_ne (tgt := 1838) C.hx C.hb dL_law_1823 (by decide) (fun h9 => absurd rfl h9) (fun _ => ?_)
    refine lv_aload_n C.hx C.hb dL_law_1826 rfl (lv_at hl 5 rfl) ?_
    refine lv_iconst (v := 0) C.hx C.hb dL_law_1827 (by decide) ?_
    refine lq_o C hP dL_law_1828 ?_
    refine lv_iload C.hx C.hb dL_law_1829 (lv_at hl 0 rfl) ?_
    refine lv_i2l (v := w.toInt64) C.hx C.hb dL_law_1831 rfl ?_
    refine W.lcmp C.hx C.hb dL_law_1832 ?_
    refine lv_if_eq (tgt := 1838) C.hx C.hb dL_law_1833 (by decide) (fun _ => ?_) (fun h9 => absurd (cmp_self _) h9)
    refine lv_goto (tgt := 2318) C.hx C.hb dL_law_1838 (by decide) ?_
    exact KK ⟨nI T, er, nI nd, tp, fd, ee, oo, tt, rr, sw, hh, tx⟩ ⟨v, nI T, er, nI 0, nW g, nW a, nW u, nW sl, nW kp, nI mm, nW P0, nW L0, sn, pv, nW r0, gn, vd, nI nd, x1, x2, x3, x4, x5, x6, x7, txt, txd⟩ (vp_updL o 0 w.toInt64) H locs ls ⟨T, er, nd, tp, fd, ee, oo, tt, rr, sw, hh, tx, v, nI 0, g, a, u, sl, kp, mm, P0, L0, sn, pv, r0, gn, vd, x1, x2, x3, x4, x5, x6, x7, txt, txd, bb, rfl, rfl, hTP, hDD, hST, hOF⟩ hP hD hS (lv_sub hl [2, 3, 4, 5, 6] rfl)
  · refine lv_aload_n C.hx C.hb dL_law_1785 rfl (lv_at hl 1 rfl) ?_
    refine lv_aload_n C.hx C.hb dL_law_1786 rfl (lv_at hl 0 rfl) ?_
    refine lv_iload C.hx C.hb dL_law_1787 (lv_at hl 4 rfl) ?_
    refine lv_iconst (v := 1) C.hx C.hb dL_law_1789 (by decide) ?_
    refine lv_iadd C.hx C.hb dL_law_1790 ?_
    refine lq_x C hS hi1 dL_law_1791 ?_
    refine lv_aload_n C.hx C.hb dL_law_1792 rfl (lv_at hl 3 rfl) ?_
    refine lqL (r := 1) (c0 := ⟨nI T, er, nI nd, tp, fd, ee, oo, tt, rr, sw, hh, tx⟩) (c1 := ⟨nI T, er, nI nd, tp, fd, ee, oo, tt, rr, sw, hh, tx⟩) (m0 := ⟨v, nI T, er, th, nW g, nW a, nW u, nW sl, nW kp, nI mm, nW P0, nW L0, sn, pv, nW r0, gn, vd, nI nd, x1, x2, x3, x4, x5, x6, x7, txt, txd⟩) (o := o) (o1 := o) (As := [.ref (Z.ca 0), .int (xs (i + 1).toNatClampNeg), .ref Z.q]) (rest := []) C (c_L_writtenWidth l C.hl0 dC dI K Z.kI Z.kE Z.kL Z.ca Z.a Z.b Z.oa Z.ob Z.ra Z.sa Z.ha Z.ux Z.uy tx (nI T) er (nI nd) tp fd ee oo tt rr sw hh (xs (i + 1).toNatClampNeg) Z.q o H.size _ e1 1 o (Or.inr ⟨rfl, rfl, rfl⟩)) gL_law_L_writtenWidth qL_writtenWidth rfl ⟨(Nat.le_of_ble_eq_true rfl), (Nat.le_of_ble_eq_true rfl)⟩ ⟨rfl, rfl⟩ hP hD hS hl.1 rfl rfl (Nat.le_of_ble_eq_true rfl) dL_law_1793 ⟨by omega, by omega⟩ (fun H locs hP hD hS => ?_)
    refine W.widen (k := cells + 8) (n := slots + 48) (by omega) (by omega) ?_
    refine lv_istore (lv' := [(5, .int 1), (0, .ref b), (1, .ref (Z.ca 0)), (2, .ref (Z.ma 0)), (3, .ref Z.q), (4, .int i)]) C.hx C.hb dL_law_1796 hl (by decide) rfl (fun ls hl => ?_)
    refine lv_aload_n C.hx C.hb dL_law_1798 rfl (lv_at hl 3 rfl) ?_
    refine lv_aload_n C.hx C.hb dL_law_1799 rfl (lv_at hl 1 rfl) ?_
    refine lv_iload C.hx C.hb dL_law_1800 (lv_at hl 5 rfl) ?_
    refine lv_iconst (v := 1) C.hx C.hb dL_law_1802 (by decide) ?_
    refine lv_iadd C.hx C.hb dL_law_1803 ?_
    refine lq_x C hS hi1 dL_law_1804 ?_
    refine lqMi (z := nI 0) (c0 := ⟨nI T, er, nI nd, tp, fd, ee, oo, tt, rr, sw, hh, tx⟩) (m0 := ⟨v, nI T, er, th, nW g, nW a, nW u, nW sl, nW kp, nI mm, nW P0, nW L0, sn, pv, nW r0, gn, vd, nI nd, x1, x2, x3, x4, x5, x6, x7, txt, txd⟩) (m1 := ⟨v, nI T, er, nI 1, nW g, nW a, nW u, nW sl, nW kp, nI mm, nW P0, nW L0, sn, pv, nW r0, gn, vd, nI nd, x1, x2, x3, x4, x5, x6, x7, txt, txd⟩) (o := o) (As := [.int (xs (i + 1).toNatClampNeg)]) (rest := []) C (c_X8_writtenWidth l dC dI Z.kI Z.kB Z.kZ Z.ma v (nI T) er th (nW g) (nW a) (nW u) (nW sl) (nW kp) (nI mm) (nW P0) (nW L0) sn pv (nW r0) gn vd (nI nd) x1 x2 x3 x4 x5 x6 x7 txt txd (xs (i + 1).toNatClampNeg) H.size _ e2) gL_law_X8_writtenWidth qX8_writtenWidth rfl ⟨(Nat.le_of_ble_eq_true rfl), (Nat.le_of_ble_eq_true rfl)⟩ ⟨rfl, rfl⟩ hP hD hS hl.1 rfl rfl (Nat.le_of_ble_eq_true rfl) dL_law_1805 ⟨by omega, by omega⟩ (fun H locs hP hD hS => ?_)
    refine lv_istore (lv' := [(6, .int (nI 0)), (5, .int 1), (0, .ref b), (1, .ref (Z.ca 0)), (2, .ref (Z.ma 0)), (3, .ref Z.q), (4, .int i)]) C.hx C.hb dL_law_1808 hl (by decide) rfl (fun ls hl => ?_)
    refine lv_aload_n C.hx C.hb dL_law_1810 rfl (lv_at hl 4 rfl) ?_
    refine lqMo (z := nI 1) (c0 := ⟨nI T, er, nI nd, tp, fd, ee, oo, tt, rr, sw, hh, tx⟩) (m0 := ⟨v, nI T, er, nI 1, nW g, nW a, nW u, nW sl, nW kp, nI mm, nW P0, nW L0, sn, pv, nW r0, gn, vd, nI nd, x1, x2, x3, x4, x5, x6, x7, txt, txd⟩) (o := o) (As := []) (rest := []) C (c_X8_thrown l dC dI Z.kI Z.kB Z.kZ Z.ma v (nI T) er (nI 1) (nW g) (nW a) (nW u) (nW sl) (nW kp) (nI mm) (nW P0) (nW L0) sn pv (nW r0) gn vd (nI nd) x1 x2 x3 x4 x5 x6 x7 txt txd (nI 1) rfl) gL_law_X8_thrown qX8_thrown rfl ⟨(Nat.le_of_ble_eq_true rfl), (Nat.le_of_ble_eq_true rfl)⟩ ⟨rfl, rfl⟩ hP hD hS hl.1 rfl rfl (Nat.le_of_ble_eq_true rfl) dL_law_1811 ⟨by omega, by omega⟩ (fun H locs hP hD hS => ?_)
    refine lv_iload C.hx C.hb dL_law_1814 (lv_at hl 1 rfl) ?_
    refine lv_icmp_eq (tgt := 1821) C.hx C.hb dL_law_1816 (by decide) (fun _ => ?_) (fun h9 => absurd (by first | rfl | decide) h9)
    refine lv_iload C.hx C.hb dL_law_1821 (lv_at hl 1 rfl) ?_
    refine lv_if_ne (tgt := 1838) C.hx C.hb dL_law_1823 (by decide) (fun _ => ?_) (fun h9 => absurd h9 (by decide))
    refine lv_goto (tgt := 2318) C.hx C.hb dL_law_1838 (by decide) ?_
    exact KK ⟨nI T, er, nI nd, tp, fd, ee, oo, tt, rr, sw, hh, tx⟩ ⟨v, nI T, er, nI 1, nW g, nW a, nW u, nW sl, nW kp, nI mm, nW P0, nW L0, sn, pv, nW r0, gn, vd, nI nd, x1, x2, x3, x4, x5, x6, x7, txt, txd⟩ o H locs ls ⟨T, er, nd, tp, fd, ee, oo, tt, rr, sw, hh, tx, v, nI 1, g, a, u, sl, kp, mm, P0, L0, sn, pv, r0, gn, vd, x1, x2, x3, x4, x5, x6, x7, txt, txd, bb, rfl, rfl, hTP, hDD, hST, hOF⟩ hP hD hS (lv_sub hl [2, 3, 4, 5, 6] rfl)
set_option maxHeartbeats 4000000 in
set_option maxRecDepth 100000 in
theorem lc_41 (C : LC p l s m args c A0 K dC dI Z b L xs) (hf : 20000 ≤ fu) (hR : REL c0 m0) (hP : va_P (dC, dI) vwCl (LW Z c0 m0 o) H) (hD : va_D A0 (LW Z c0 m0 o)) (hS : va_S A0 s.heap H locs) (hl : lv_has ls 9 [(0, .ref b), (1, .ref (Z.ca 0)), (2, .ref (Z.ma 0)), (3, .ref Z.q), (4, .int i)])  (hcl : cells + 8 ≤ room_1.cells ∧ slots + 48 ≤ room_1.slots) (KK : LKK p l e s m args below meth c (cells + 8) (slots + 48) Q A0 dC dI Z b i) : W p l e room_1 s m args below meth c H locs cells slots Q (F0 m 1841 ls []) := by
  obtain ⟨hc1, hc2⟩ := hcl
  obtain ⟨T, er, nd, tp, fd, ee, oo, tt, rr, sw, hh, tx, v, th, g, a, u, sl, kp, mm, P0, L0, sn, pv, r0, gn, vd, x1, x2, x3, x4, x5, x6, x7, txt, txd, bb, rfl, rfl, hTP, hDD, hST, hOF⟩ := hR
  have hRE := hST.1
  have hG := hST.2.1
  obtain ⟨w, e1, e2⟩ := (t_looks1 fu hf th hRE hG).2.2.2.2.2.1
  refine lv_aload_n C.hx C.hb dL_law_1841 rfl (lv_at hl 1 rfl) ?_
  refine lqRi (z := w) (c0 := ⟨nI T, er, nI nd, tp, fd, ee, oo, tt, rr, sw, hh, tx⟩) (m0 := ⟨v, nI T, er, th, nW g, nW a, nW u, nW sl, nW kp, nI mm, nW P0, nW L0, sn, pv, nW r0, gn, vd, nI nd, x1, x2, x3, x4, x5, x6, x7, txt, txd⟩) (o := o) (As := []) (rest := []) C (c_X7_bitCount l dC dI Z.kI Z.kE Z.ca Z.a Z.b Z.oa Z.ob Z.ra Z.sa Z.ha Z.ux Z.uy tx (nI T) er (nI nd) tp fd ee oo tt rr sw hh _ e1) gL_law_X7_bitCount qX7_bitCount rfl ⟨(Nat.le_of_ble_eq_true rfl), (Nat.le_of_ble_eq_true rfl)⟩ ⟨rfl, rfl⟩ hP hD hS hl.1 rfl rfl (Nat.le_of_ble_eq_true rfl) dL_law_1842 ⟨by omega, by omega⟩ (fun H locs hP hD hS => ?_)
  refine lv_aload_n C.hx C.hb dL_law_1845 rfl (lv_at hl 2 rfl) ?_
  refine lqMi (z := w) (c0 := ⟨nI T, er, nI nd, tp, fd, ee, oo, tt, rr, sw, hh, tx⟩) (m0 := ⟨v, nI T, er, th, nW g, nW a, nW u, nW sl, nW kp, nI mm, nW P0, nW L0, sn, pv, nW r0, gn, vd, nI nd, x1, x2, x3, x4, x5, x6, x7, txt, txd⟩) (m1 := ⟨v, nI T, er, nI 0, nW g, nW a, nW u, nW sl, nW kp, nI mm, nW P0, nW L0, sn, pv, nW r0, gn, vd, nI nd, x1, x2, x3, x4, x5, x6, x7, txt, txd⟩) (o := o) (As := []) (rest := [.int w]) C (c_X8_bitCount fu l dC dI Z.kI Z.kB Z.kZ Z.ma v (nI T) er th (nW g) (nW a) (nW u) (nW sl) (nW kp) (nI mm) (nW P0) (nW L0) sn pv (nW r0) gn vd (nI nd) x1 x2 x3 x4 x5 x6 x7 txt txd H.size _ e2) gL_law_X8_bitCount qX8_bitCount rfl ⟨(Nat.le_of_ble_eq_true rfl), (Nat.le_of_ble_eq_true rfl)⟩ ⟨rfl, rfl⟩ hP hD hS hl.1 rfl rfl (Nat.le_of_ble_eq_true rfl) dL_law_1846 ⟨by omega, by omega⟩ (fun H locs hP hD hS => ?_)
  refine lv_icmp_eq (tgt := 2318) C.hx C.hb dL_law_1849 (by decide) (fun _ => ?_) (fun h9 => absurd (by first | rfl | decide) h9)
  refine W.widen (k := cells + 8) (n := slots + 48) (by omega) (by omega) ?_
  exact KK ⟨nI T, er, nI nd, tp, fd, ee, oo, tt, rr, sw, hh, tx⟩ ⟨v, nI T, er, nI 0, nW g, nW a, nW u, nW sl, nW kp, nI mm, nW P0, nW L0, sn, pv, nW r0, gn, vd, nI nd, x1, x2, x3, x4, x5, x6, x7, txt, txd⟩ o H locs ls ⟨T, er, nd, tp, fd, ee, oo, tt, rr, sw, hh, tx, v, nI 0, g, a, u, sl, kp, mm, P0, L0, sn, pv, r0, gn, vd, x1, x2, x3, x4, x5, x6, x7, txt, txd, bb, rfl, rfl, hTP, hDD, hST, hOF⟩ hP hD hS (lv_sub hl [0, 1, 2, 3, 4] rfl)
set_option maxHeartbeats 4000000 in
set_option maxRecDepth 100000 in
theorem lc_42 (C : LC p l s m args c A0 K dC dI Z b L xs) (hf : 20000 ≤ fu) (hR : REL c0 m0) (hP : va_P (dC, dI) vwCl (LW Z c0 m0 o) H) (hD : va_D A0 (LW Z c0 m0 o)) (hS : va_S A0 s.heap H locs) (hl : lv_has ls 9 [(0, .ref b), (1, .ref (Z.ca 0)), (2, .ref (Z.ma 0)), (3, .ref Z.q), (4, .int i)]) (hi1 : vp_in (i + 1) L) (hcl : cells + 8 ≤ room_1.cells ∧ slots + 48 ≤ room_1.slots) (KK : LKK p l e s m args below meth c (cells + 8) (slots + 48) Q A0 dC dI Z b i) : W p l e room_1 s m args below meth c H locs cells slots Q (F0 m 1854 ls []) := by
  obtain ⟨hc1, hc2⟩ := hcl
  obtain ⟨T, er, nd, tp, fd, ee, oo, tt, rr, sw, hh, tx, v, th, g, a, u, sl, kp, mm, P0, L0, sn, pv, r0, gn, vd, x1, x2, x3, x4, x5, x6, x7, txt, txd, bb, rfl, rfl, hTP, hDD, hST, hOF⟩ := hR
  have hRE := hST.1
  have hG := hST.2.1
  rcases t_bitAt fu hf th hRE hG (xs (i + 1).toNatClampNeg) with ⟨w, e1, e2⟩ | ⟨e1, e2⟩
  · refine lv_aload_n C.hx C.hb dL_law_1854 rfl (lv_at hl 1 rfl) ?_
    refine lv_aload_n C.hx C.hb dL_law_1855 rfl (lv_at hl 0 rfl) ?_
    refine lv_iload C.hx C.hb dL_law_1856 (lv_at hl 4 rfl) ?_
    refine lv_iconst (v := 1) C.hx C.hb dL_law_1858 (by decide) ?_
    refine lv_iadd C.hx C.hb dL_law_1859 ?_
    refine lq_x C hS hi1 dL_law_1860 ?_
    refine lv_aload_n C.hx C.hb dL_law_1861 rfl (lv_at hl 3 rfl) ?_
    refine lqL (r := 0) (c0 := ⟨nI T, er, nI nd, tp, fd, ee, oo, tt, rr, sw, hh, tx⟩) (c1 := ⟨nI T, er, nI nd, tp, fd, ee, oo, tt, rr, sw, hh, tx⟩) (m0 := ⟨v, nI T, er, th, nW g, nW a, nW u, nW sl, nW kp, nI mm, nW P0, nW L0, sn, pv, nW r0, gn, vd, nI nd, x1, x2, x3, x4, x5, x6, x7, txt, txd⟩) (o := o) (o1 := (vp_updL o 0 w.toInt64)) (As := [.ref (Z.ca 0), .int (xs (i + 1).toNatClampNeg), .ref Z.q]) (rest := []) C (c_L_bitAt fu l C.hl0 dC dI K Z.kI Z.kE Z.kL Z.ca Z.a Z.b Z.oa Z.ob Z.ra Z.sa Z.ha Z.ux Z.uy tx (nI T) er (nI nd) tp fd ee oo tt rr sw hh (xs (i + 1).toNatClampNeg) Z.q o H.size _ e1 0 (vp_updL o 0 w.toInt64) (Or.inl ⟨w, rfl, rfl, rfl⟩)) gL_law_L_bitAt qL_bitAt rfl ⟨(Nat.le_of_ble_eq_true rfl), (Nat.le_of_ble_eq_true rfl)⟩ ⟨rfl, rfl⟩ hP hD hS hl.1 rfl rfl (Nat.le_of_ble_eq_true rfl) dL_law_1862 ⟨by omega, by omega⟩ (fun H locs hP hD hS => ?_)
    refine W.widen (k := cells + 8) (n := slots + 48) (by omega) (by omega) ?_
    refine lv_istore (lv' := [(5, .int 0), (0, .ref b), (1, .ref (Z.ca 0)), (2, .ref (Z.ma 0)), (3, .ref Z.q), (4, .int i)]) C.hx C.hb dL_law_1865 hl (by decide) rfl (fun ls hl => ?_)
    refine lv_aload_n C.hx C.hb dL_law_1867 rfl (lv_at hl 3 rfl) ?_
    refine lv_aload_n C.hx C.hb dL_law_1868 rfl (lv_at hl 1 rfl) ?_
    refine lv_iload C.hx C.hb dL_law_1869 (lv_at hl 5 rfl) ?_
    refine lv_iconst (v := 1) C.hx C.hb dL_law_1871 (by decide) ?_
    refine lv_iadd C.hx C.hb dL_law_1872 ?_
    refine lq_x C hS hi1 dL_law_1873 ?_
    refine lqMi (z := w) (c0 := ⟨nI T, er, nI nd, tp, fd, ee, oo, tt, rr, sw, hh, tx⟩) (m0 := ⟨v, nI T, er, th, nW g, nW a, nW u, nW sl, nW kp, nI mm, nW P0, nW L0, sn, pv, nW r0, gn, vd, nI nd, x1, x2, x3, x4, x5, x6, x7, txt, txd⟩) (m1 := ⟨v, nI T, er, nI 0, nW g, nW a, nW u, nW sl, nW kp, nI mm, nW P0, nW L0, sn, pv, nW r0, gn, vd, nI nd, x1, x2, x3, x4, x5, x6, x7, txt, txd⟩) (o := (vp_updL o 0 w.toInt64)) (As := [.int (xs (i + 1).toNatClampNeg)]) (rest := []) C (c_X8_bitAt fu l dC dI Z.kI Z.kB Z.kZ Z.ma v (nI T) er th (nW g) (nW a) (nW u) (nW sl) (nW kp) (nI mm) (nW P0) (nW L0) sn pv (nW r0) gn vd (nI nd) x1 x2 x3 x4 x5 x6 x7 txt txd (xs (i + 1).toNatClampNeg) H.size _ e2) gL_law_X8_bitAt qX8_bitAt rfl ⟨(Nat.le_of_ble_eq_true rfl), (Nat.le_of_ble_eq_true rfl)⟩ ⟨rfl, rfl⟩ hP hD hS hl.1 rfl rfl (Nat.le_of_ble_eq_true rfl) dL_law_1874 ⟨by omega, by omega⟩ (fun H locs hP hD hS => ?_)
    refine lv_istore (lv' := [(6, .int w), (5, .int 0), (0, .ref b), (1, .ref (Z.ca 0)), (2, .ref (Z.ma 0)), (3, .ref Z.q), (4, .int i)]) C.hx C.hb dL_law_1877 hl (by decide) rfl (fun ls hl => ?_)
    refine lv_aload_n C.hx C.hb dL_law_1879 rfl (lv_at hl 4 rfl) ?_
    refine lqMo (z := nI 0) (c0 := ⟨nI T, er, nI nd, tp, fd, ee, oo, tt, rr, sw, hh, tx⟩) (m0 := ⟨v, nI T, er, nI 0, nW g, nW a, nW u, nW sl, nW kp, nI mm, nW P0, nW L0, sn, pv, nW r0, gn, vd, nI nd, x1, x2, x3, x4, x5, x6, x7, txt, txd⟩) (o := (vp_updL o 0 w.toInt64)) (As := []) (rest := []) C (c_X8_thrown l dC dI Z.kI Z.kB Z.kZ Z.ma v (nI T) er (nI 0) (nW g) (nW a) (nW u) (nW sl) (nW kp) (nI mm) (nW P0) (nW L0) sn pv (nW r0) gn vd (nI nd) x1 x2 x3 x4 x5 x6 x7 txt txd (nI 0) rfl) gL_law_X8_thrown qX8_thrown rfl ⟨(Nat.le_of_ble_eq_true rfl), (Nat.le_of_ble_eq_true rfl)⟩ ⟨rfl, rfl⟩ hP hD hS hl.1 rfl rfl (Nat.le_of_ble_eq_true rfl) dL_law_1880 ⟨by omega, by omega⟩ (fun H locs hP hD hS => ?_)
    refine lv_iload C.hx C.hb dL_law_1883 (lv_at hl 1 rfl) ?_
    refine lv_icmp_eq (tgt := 1890) C.hx C.hb dL_law_1885 (by decide) (fun _ => ?_) (fun h9 => absurd (by first | rfl | decide) h9)
    refine lv_iload C.hx C.hb dL_law_1890 (lv_at hl 1 rfl) ?_
    refine lv_if_ne (tgt := 1907) C.hx C.hb dL_law_1892 (by decide) (fun h9 => absurd rfl h9) (fun _ => ?_)
    refine lv_aload_n C.hx C.hb dL_law_1895 rfl (lv_at hl 5 rfl) ?_
    refine lv_iconst (v := 0) C.hx C.hb dL_law_1896 (by decide) ?_
    refine lq_o C hP dL_law_1897 ?_
    refine lv_iload C.hx C.hb dL_law_1898 (lv_at hl 0 rfl) ?_
    refine lv_i2l (v := w.toInt64) C.hx C.hb dL_law_1900 rfl ?_
    refine W.lcmp C.hx C.hb dL_law_1901 ?_
    refine lv_if_eq (tgt := 1907) C.hx C.hb dL_law_1902 (by decide) (fun _ => ?_) (fun h9 => absurd (cmp_self _) h9)
    refine lv_goto (tgt := 2318) C.hx C.hb dL_law_1907 (by decide) ?_
    exact KK ⟨nI T, er, nI nd, tp, fd, ee, oo, tt, rr, sw, hh, tx⟩ ⟨v, nI T, er, nI 0, nW g, nW a, nW u, nW sl, nW kp, nI mm, nW P0, nW L0, sn, pv, nW r0, gn, vd, nI nd, x1, x2, x3, x4, x5, x6, x7, txt, txd⟩ (vp_updL o 0 w.toInt64) H locs ls ⟨T, er, nd, tp, fd, ee, oo, tt, rr, sw, hh, tx, v, nI 0, g, a, u, sl, kp, mm, P0, L0, sn, pv, r0, gn, vd, x1, x2, x3, x4, x5, x6, x7, txt, txd, bb, rfl, rfl, hTP, hDD, hST, hOF⟩ hP hD hS (lv_sub hl [2, 3, 4, 5, 6] rfl)
  · refine lv_aload_n C.hx C.hb dL_law_1854 rfl (lv_at hl 1 rfl) ?_
    refine lv_aload_n C.hx C.hb dL_law_1855 rfl (lv_at hl 0 rfl) ?_
    refine lv_iload C.hx C.hb dL_law_1856 (lv_at hl 4 rfl) ?_
    refine lv_iconst (v := 1) C.hx C.hb dL_law_1858 (by decide) ?_
    refine lv_iadd C.hx C.hb dL_law_1859 ?_
    refine lq_x C hS hi1 dL_law_1860 ?_
    refine lv_aload_n C.hx C.hb dL_law_1861 rfl (lv_at hl 3 rfl) ?_
    refine lqL (r := 1) (c0 := ⟨nI T, er, nI nd, tp, fd, ee, oo, tt, rr, sw, hh, tx⟩) (c1 := ⟨nI T, er, nI nd, tp, fd, ee, oo, tt, rr, sw, hh, tx⟩) (m0 := ⟨v, nI T, er, th, nW g, nW a, nW u, nW sl, nW kp, nI mm, nW P0, nW L0, sn, pv, nW r0, gn, vd, nI nd, x1, x2, x3, x4, x5, x6, x7, txt, txd⟩) (o := o) (o1 := o) (As := [.ref (Z.ca 0), .int (xs (i + 1).toNatClampNeg), .ref Z.q]) (rest := []) C (c_L_bitAt fu l C.hl0 dC dI K Z.kI Z.kE Z.kL Z.ca Z.a Z.b Z.oa Z.ob Z.ra Z.sa Z.ha Z.ux Z.uy tx (nI T) er (nI nd) tp fd ee oo tt rr sw hh (xs (i + 1).toNatClampNeg) Z.q o H.size _ e1 1 o (Or.inr ⟨rfl, rfl, rfl⟩)) gL_law_L_bitAt qL_bitAt rfl ⟨(Nat.le_of_ble_eq_true rfl), (Nat.le_of_ble_eq_true rfl)⟩ ⟨rfl, rfl⟩ hP hD hS hl.1 rfl rfl (Nat.le_of_ble_eq_true rfl) dL_law_1862 ⟨by omega, by omega⟩ (fun H locs hP hD hS => ?_)
    refine W.widen (k := cells + 8) (n := slots + 48) (by omega) (by omega) ?_
    refine lv_istore (lv' := [(5, .int 1), (0, .ref b), (1, .ref (Z.ca 0)), (2, .ref (Z.ma 0)), (3, .ref Z.q), (4, .int i)]) C.hx C.hb dL_law_1865 hl (by decide) rfl (fun ls hl => ?_)
    refine lv_aload_n C.hx C.hb dL_law_1867 rfl (lv_at hl 3 rfl) ?_
    refine lv_aload_n C.hx C.hb dL_law_1868 rfl (lv_at hl 1 rfl) ?_
    refine lv_iload C.hx C.hb dL_law_1869 (lv_at hl 5 rfl) ?_
    refine lv_iconst (v := 1) C.hx C.hb dL_law_1871 (by decide) ?_
    refine lv_iadd C.hx C.hb dL_law_1872 ?_
    refine lq_x C hS hi1 dL_law_1873 ?_
    refine lqMi (z := nI 0) (c0 := ⟨nI T, er, nI nd, tp, fd, ee, oo, tt, rr, sw, hh, tx⟩) (m0 := ⟨v, nI T, er, th, nW g, nW a, nW u, nW sl, nW kp, nI mm, nW P0, nW L0, sn, pv, nW r0, gn, vd, nI nd, x1, x2, x3, x4, x5, x6, x7, txt, txd⟩) (m1 := ⟨v, nI T, er, nI 1, nW g, nW a, nW u, nW sl, nW kp, nI mm, nW P0, nW L0, sn, pv, nW r0, gn, vd, nI nd, x1, x2, x3, x4, x5, x6, x7, txt, txd⟩) (o := o) (As := [.int (xs (i + 1).toNatClampNeg)]) (rest := []) C (c_X8_bitAt fu l dC dI Z.kI Z.kB Z.kZ Z.ma v (nI T) er th (nW g) (nW a) (nW u) (nW sl) (nW kp) (nI mm) (nW P0) (nW L0) sn pv (nW r0) gn vd (nI nd) x1 x2 x3 x4 x5 x6 x7 txt txd (xs (i + 1).toNatClampNeg) H.size _ e2) gL_law_X8_bitAt qX8_bitAt rfl ⟨(Nat.le_of_ble_eq_true rfl), (Nat.le_of_ble_eq_true rfl)⟩ ⟨rfl, rfl⟩ hP hD hS hl.1 rfl rfl (Nat.le_of_ble_eq_true rfl) dL_law_1874 ⟨by omega, by omega⟩ (fun H locs hP hD hS => ?_)
    refine lv_istore (lv' := [(6, .int (nI 0)), (5, .int 1), (0, .ref b), (1, .ref (Z.ca 0)), (2, .ref (Z.ma 0)), (3, .ref Z.q), (4, .int i)]) C.hx C.hb dL_law_1877 hl (by decide) rfl (fun ls hl => ?_)
    refine lv_aload_n C.hx C.hb dL_law_1879 rfl (lv_at hl 4 rfl) ?_
    refine lqMo (z := nI 1) (c0 := ⟨nI T, er, nI nd, tp, fd, ee, oo, tt, rr, sw, hh, tx⟩) (m0 := ⟨v, nI T, er, nI 1, nW g, nW a, nW u, nW sl, nW kp, nI mm, nW P0, nW L0, sn, pv, nW r0, gn, vd, nI nd, x1, x2, x3, x4, x5, x6, x7, txt, txd⟩) (o := o) (As := []) (rest := []) C (c_X8_thrown l dC dI Z.kI Z.kB Z.kZ Z.ma v (nI T) er (nI 1) (nW g) (nW a) (nW u) (nW sl) (nW kp) (nI mm) (nW P0) (nW L0) sn pv (nW r0) gn vd (nI nd) x1 x2 x3 x4 x5 x6 x7 txt txd (nI 1) rfl) gL_law_X8_thrown qX8_thrown rfl ⟨(Nat.le_of_ble_eq_true rfl), (Nat.le_of_ble_eq_true rfl)⟩ ⟨rfl, rfl⟩ hP hD hS hl.1 rfl rfl (Nat.le_of_ble_eq_true rfl) dL_law_1880 ⟨by omega, by omega⟩ (fun H locs hP hD hS => ?_)
    refine lv_iload C.hx C.hb dL_law_1883 (lv_at hl 1 rfl) ?_
    refine lv_icmp_eq (tgt := 1890) C.hx C.hb dL_law_1885 (by decide) (fun _ => ?_) (fun h9 => absurd (by first | rfl | decide) h9)
    refine lv_iload C.hx C.hb dL_law_1890 (lv_at hl 1 rfl) ?_
    refine lv_if_ne (tgt := 1907) C.hx C.hb dL_law_1892 (by decide) (fun _ => ?_) (fun h9 => absurd h9 (by decide))
    refine lv_goto (tgt := 2318) C.hx C.hb dL_law_1907 (by decide) ?_
    exact KK ⟨nI T, er, nI nd, tp, fd, ee, oo, tt, rr, sw, hh, tx⟩ ⟨v, nI T, er, nI 1, nW g, nW a, nW u, nW sl, nW kp, nI mm, nW P0, nW L0, sn, pv, nW r0, gn, vd, nI nd, x1, x2, x3, x4, x5, x6, x7, txt, txd⟩ o H locs ls ⟨T, er, nd, tp, fd, ee, oo, tt, rr, sw, hh, tx, v, nI 1, g, a, u, sl, kp, mm, P0, L0, sn, pv, r0, gn, vd, x1, x2, x3, x4, x5, x6, x7, txt, txd, bb, rfl, rfl, hTP, hDD, hST, hOF⟩ hP hD hS (lv_sub hl [2, 3, 4, 5, 6] rfl)
set_option maxHeartbeats 4000000 in
set_option maxRecDepth 100000 in
theorem lc_43 (C : LC p l s m args c A0 K dC dI Z b L xs) (hf : 20000 ≤ fu) (hR : REL c0 m0) (hP : va_P (dC, dI) vwCl (LW Z c0 m0 o) H) (hD : va_D A0 (LW Z c0 m0 o)) (hS : va_S A0 s.heap H locs) (hl : lv_has ls 9 [(0, .ref b), (1, .ref (Z.ca 0)), (2, .ref (Z.ma 0)), (3, .ref Z.q), (4, .int i)])  (hcl : cells + 8 ≤ room_1.cells ∧ slots + 48 ≤ room_1.slots) (KK : LKK p l e s m args below meth c (cells + 8) (slots + 48) Q A0 dC dI Z b i) : W p l e room_1 s m args below meth c H locs cells slots Q (F0 m 1910 ls []) := by
  obtain ⟨hc1, hc2⟩ := hcl
  obtain ⟨T, er, nd, tp, fd, ee, oo, tt, rr, sw, hh, tx, v, th, g, a, u, sl, kp, mm, P0, L0, sn, pv, r0, gn, vd, x1, x2, x3, x4, x5, x6, x7, txt, txd, bb, rfl, rfl, hTP, hDD, hST, hOF⟩ := hR
  have hRE := hST.1
  have hG := hST.2.1
  obtain ⟨w, e1, e2⟩ := t_byteCount fu hf th hRE hG
  refine lv_aload_n C.hx C.hb dL_law_1910 rfl (lv_at hl 1 rfl) ?_
  refine lqRi (z := w) (c0 := ⟨nI T, er, nI nd, tp, fd, ee, oo, tt, rr, sw, hh, tx⟩) (m0 := ⟨v, nI T, er, th, nW g, nW a, nW u, nW sl, nW kp, nI mm, nW P0, nW L0, sn, pv, nW r0, gn, vd, nI nd, x1, x2, x3, x4, x5, x6, x7, txt, txd⟩) (o := o) (As := []) (rest := []) C (c_X7_byteCount l dC dI Z.kI Z.kE Z.ca Z.a Z.b Z.oa Z.ob Z.ra Z.sa Z.ha Z.ux Z.uy tx (nI T) er (nI nd) tp fd ee oo tt rr sw hh _ e1) gL_law_X7_byteCount qX7_byteCount rfl ⟨(Nat.le_of_ble_eq_true rfl), (Nat.le_of_ble_eq_true rfl)⟩ ⟨rfl, rfl⟩ hP hD hS hl.1 rfl rfl (Nat.le_of_ble_eq_true rfl) dL_law_1911 ⟨by omega, by omega⟩ (fun H locs hP hD hS => ?_)
  refine lv_aload_n C.hx C.hb dL_law_1914 rfl (lv_at hl 2 rfl) ?_
  refine lqMi (z := w) (c0 := ⟨nI T, er, nI nd, tp, fd, ee, oo, tt, rr, sw, hh, tx⟩) (m0 := ⟨v, nI T, er, th, nW g, nW a, nW u, nW sl, nW kp, nI mm, nW P0, nW L0, sn, pv, nW r0, gn, vd, nI nd, x1, x2, x3, x4, x5, x6, x7, txt, txd⟩) (m1 := ⟨v, nI T, er, nI 0, nW g, nW a, nW u, nW sl, nW kp, nI mm, nW P0, nW L0, sn, pv, nW r0, gn, vd, nI nd, x1, x2, x3, x4, x5, x6, x7, txt, txd⟩) (o := o) (As := []) (rest := [.int w]) C (c_X8_byteCount fu l dC dI Z.kI Z.kB Z.kZ Z.ma v (nI T) er th (nW g) (nW a) (nW u) (nW sl) (nW kp) (nI mm) (nW P0) (nW L0) sn pv (nW r0) gn vd (nI nd) x1 x2 x3 x4 x5 x6 x7 txt txd H.size _ e2) gL_law_X8_byteCount qX8_byteCount rfl ⟨(Nat.le_of_ble_eq_true rfl), (Nat.le_of_ble_eq_true rfl)⟩ ⟨rfl, rfl⟩ hP hD hS hl.1 rfl rfl (Nat.le_of_ble_eq_true rfl) dL_law_1915 ⟨by omega, by omega⟩ (fun H locs hP hD hS => ?_)
  refine lv_icmp_eq (tgt := 2318) C.hx C.hb dL_law_1918 (by decide) (fun _ => ?_) (fun h9 => absurd (by first | rfl | decide) h9)
  refine W.widen (k := cells + 8) (n := slots + 48) (by omega) (by omega) ?_
  exact KK ⟨nI T, er, nI nd, tp, fd, ee, oo, tt, rr, sw, hh, tx⟩ ⟨v, nI T, er, nI 0, nW g, nW a, nW u, nW sl, nW kp, nI mm, nW P0, nW L0, sn, pv, nW r0, gn, vd, nI nd, x1, x2, x3, x4, x5, x6, x7, txt, txd⟩ o H locs ls ⟨T, er, nd, tp, fd, ee, oo, tt, rr, sw, hh, tx, v, nI 0, g, a, u, sl, kp, mm, P0, L0, sn, pv, r0, gn, vd, x1, x2, x3, x4, x5, x6, x7, txt, txd, bb, rfl, rfl, hTP, hDD, hST, hOF⟩ hP hD hS (lv_sub hl [0, 1, 2, 3, 4] rfl)
set_option maxHeartbeats 4000000 in
set_option maxRecDepth 100000 in
theorem lc_44 (C : LC p l s m args c A0 K dC dI Z b L xs) (hf : 20000 ≤ fu) (hR : REL c0 m0) (hP : va_P (dC, dI) vwCl (LW Z c0 m0 o) H) (hD : va_D A0 (LW Z c0 m0 o)) (hS : va_S A0 s.heap H locs) (hl : lv_has ls 9 [(0, .ref b), (1, .ref (Z.ca 0)), (2, .ref (Z.ma 0)), (3, .ref Z.q), (4, .int i)]) (hi1 : vp_in (i + 1) L) (hcl : cells + 8 ≤ room_1.cells ∧ slots + 48 ≤ room_1.slots) (KK : LKK p l e s m args below meth c (cells + 8) (slots + 48) Q A0 dC dI Z b i) : W p l e room_1 s m args below meth c H locs cells slots Q (F0 m 1923 ls []) := by
  obtain ⟨hc1, hc2⟩ := hcl
  obtain ⟨T, er, nd, tp, fd, ee, oo, tt, rr, sw, hh, tx, v, th, g, a, u, sl, kp, mm, P0, L0, sn, pv, r0, gn, vd, x1, x2, x3, x4, x5, x6, x7, txt, txd, bb, rfl, rfl, hTP, hDD, hST, hOF⟩ := hR
  have hRE := hST.1
  have hG := hST.2.1
  rcases t_byteAt fu hf th hRE hG tp fd oo tt rr sw hh (xs (i + 1).toNatClampNeg) with ⟨w, e1, e2⟩ | ⟨e1, e2⟩
  · refine lv_aload_n C.hx C.hb dL_law_1923 rfl (lv_at hl 1 rfl) ?_
    refine lv_aload_n C.hx C.hb dL_law_1924 rfl (lv_at hl 0 rfl) ?_
    refine lv_iload C.hx C.hb dL_law_1925 (lv_at hl 4 rfl) ?_
    refine lv_iconst (v := 1) C.hx C.hb dL_law_1927 (by decide) ?_
    refine lv_iadd C.hx C.hb dL_law_1928 ?_
    refine lq_x C hS hi1 dL_law_1929 ?_
    refine lv_aload_n C.hx C.hb dL_law_1930 rfl (lv_at hl 3 rfl) ?_
    refine lqL (r := 0) (c0 := ⟨nI T, er, nI nd, tp, fd, ee, oo, tt, rr, sw, hh, tx⟩) (c1 := ⟨nI T, er, nI nd, tp, fd, ee, oo, tt, rr, sw, hh, tx⟩) (m0 := ⟨v, nI T, er, th, nW g, nW a, nW u, nW sl, nW kp, nI mm, nW P0, nW L0, sn, pv, nW r0, gn, vd, nI nd, x1, x2, x3, x4, x5, x6, x7, txt, txd⟩) (o := o) (o1 := (vp_updL o 0 w.toInt64)) (As := [.ref (Z.ca 0), .int (xs (i + 1).toNatClampNeg), .ref Z.q]) (rest := []) C (c_L_byteAt fu l C.hl0 dC dI K Z.kI Z.kE Z.kL Z.ca Z.a Z.b Z.oa Z.ob Z.ra Z.sa Z.ha Z.ux Z.uy tx (nI T) er (nI nd) tp fd ee oo tt rr sw hh (xs (i + 1).toNatClampNeg) Z.q o H.size _ e1 0 (vp_updL o 0 w.toInt64) (Or.inl ⟨w, rfl, rfl, rfl⟩)) gL_law_L_byteAt qL_byteAt rfl ⟨(Nat.le_of_ble_eq_true rfl), (Nat.le_of_ble_eq_true rfl)⟩ ⟨rfl, rfl⟩ hP hD hS hl.1 rfl rfl (Nat.le_of_ble_eq_true rfl) dL_law_1931 ⟨by omega, by omega⟩ (fun H locs hP hD hS => ?_)
    refine W.widen (k := cells + 8) (n := slots + 48) (by omega) (by omega) ?_
    refine lv_istore (lv' := [(5, .int 0), (0, .ref b), (1, .ref (Z.ca 0)), (2, .ref (Z.ma 0)), (3, .ref Z.q), (4, .int i)]) C.hx C.hb dL_law_1934 hl (by decide) rfl (fun ls hl => ?_)
    refine lv_aload_n C.hx C.hb dL_law_1936 rfl (lv_at hl 3 rfl) ?_
    refine lv_aload_n C.hx C.hb dL_law_1937 rfl (lv_at hl 1 rfl) ?_
    refine lv_iload C.hx C.hb dL_law_1938 (lv_at hl 5 rfl) ?_
    refine lv_iconst (v := 1) C.hx C.hb dL_law_1940 (by decide) ?_
    refine lv_iadd C.hx C.hb dL_law_1941 ?_
    refine lq_x C hS hi1 dL_law_1942 ?_
    refine lqMi (z := w) (c0 := ⟨nI T, er, nI nd, tp, fd, ee, oo, tt, rr, sw, hh, tx⟩) (m0 := ⟨v, nI T, er, th, nW g, nW a, nW u, nW sl, nW kp, nI mm, nW P0, nW L0, sn, pv, nW r0, gn, vd, nI nd, x1, x2, x3, x4, x5, x6, x7, txt, txd⟩) (m1 := ⟨v, nI T, er, nI 0, nW g, nW a, nW u, nW sl, nW kp, nI mm, nW P0, nW L0, sn, pv, nW r0, gn, vd, nI nd, x1, x2, x3, x4, x5, x6, x7, txt, txd⟩) (o := (vp_updL o 0 w.toInt64)) (As := [.int (xs (i + 1).toNatClampNeg)]) (rest := []) C (c_X8_byteAt fu l dC dI Z.kI Z.kB Z.kZ Z.ma v (nI T) er th (nW g) (nW a) (nW u) (nW sl) (nW kp) (nI mm) (nW P0) (nW L0) sn pv (nW r0) gn vd (nI nd) x1 x2 x3 x4 x5 x6 x7 txt txd (xs (i + 1).toNatClampNeg) H.size _ e2) gL_law_X8_byteAt qX8_byteAt rfl ⟨(Nat.le_of_ble_eq_true rfl), (Nat.le_of_ble_eq_true rfl)⟩ ⟨rfl, rfl⟩ hP hD hS hl.1 rfl rfl (Nat.le_of_ble_eq_true rfl) dL_law_1943 ⟨by omega, by omega⟩ (fun H locs hP hD hS => ?_)
    refine lv_istore (lv' := [(6, .int w), (5, .int 0), (0, .ref b), (1, .ref (Z.ca 0)), (2, .ref (Z.ma 0)), (3, .ref Z.q), (4, .int i)]) C.hx C.hb dL_law_1946 hl (by decide) rfl (fun ls hl => ?_)
    refine lv_aload_n C.hx C.hb dL_law_1948 rfl (lv_at hl 4 rfl) ?_
    refine lqMo (z := nI 0) (c0 := ⟨nI T, er, nI nd, tp, fd, ee, oo, tt, rr, sw, hh, tx⟩) (m0 := ⟨v, nI T, er, nI 0, nW g, nW a, nW u, nW sl, nW kp, nI mm, nW P0, nW L0, sn, pv, nW r0, gn, vd, nI nd, x1, x2, x3, x4, x5, x6, x7, txt, txd⟩) (o := (vp_updL o 0 w.toInt64)) (As := []) (rest := []) C (c_X8_thrown l dC dI Z.kI Z.kB Z.kZ Z.ma v (nI T) er (nI 0) (nW g) (nW a) (nW u) (nW sl) (nW kp) (nI mm) (nW P0) (nW L0) sn pv (nW r0) gn vd (nI nd) x1 x2 x3 x4 x5 x6 x7 txt txd (nI 0) rfl) gL_law_X8_thrown qX8_thrown rfl ⟨(Nat.le_of_ble_eq_true rfl), (Nat.le_of_ble_eq_true rfl)⟩ ⟨rfl, rfl⟩ hP hD hS hl.1 rfl rfl (Nat.le_of_ble_eq_true rfl) dL_law_1949 ⟨by omega, by omega⟩ (fun H locs hP hD hS => ?_)
    refine lv_iload C.hx C.hb dL_law_1952 (lv_at hl 1 rfl) ?_
    refine lv_icmp_eq (tgt := 1959) C.hx C.hb dL_law_1954 (by decide) (fun _ => ?_) (fun h9 => absurd (by first | rfl | decide) h9)
    refine lv_iload C.hx C.hb dL_law_1959 (lv_at hl 1 rfl) ?_
    refine lv_if_ne (tgt := 1976) C.hx C.hb dL_law_1961 (by decide) (fun h9 => absurd rfl h9) (fun _ => ?_)
    refine lv_aload_n C.hx C.hb dL_law_1964 rfl (lv_at hl 5 rfl) ?_
    refine lv_iconst (v := 0) C.hx C.hb dL_law_1965 (by decide) ?_
    refine lq_o C hP dL_law_1966 ?_
    refine lv_iload C.hx C.hb dL_law_1967 (lv_at hl 0 rfl) ?_
    refine lv_i2l (v := w.toInt64) C.hx C.hb dL_law_1969 rfl ?_
    refine W.lcmp C.hx C.hb dL_law_1970 ?_
    refine lv_if_eq (tgt := 1976) C.hx C.hb dL_law_1971 (by decide) (fun _ => ?_) (fun h9 => absurd (cmp_self _) h9)
    refine lv_goto (tgt := 2318) C.hx C.hb dL_law_1976 (by decide) ?_
    exact KK ⟨nI T, er, nI nd, tp, fd, ee, oo, tt, rr, sw, hh, tx⟩ ⟨v, nI T, er, nI 0, nW g, nW a, nW u, nW sl, nW kp, nI mm, nW P0, nW L0, sn, pv, nW r0, gn, vd, nI nd, x1, x2, x3, x4, x5, x6, x7, txt, txd⟩ (vp_updL o 0 w.toInt64) H locs ls ⟨T, er, nd, tp, fd, ee, oo, tt, rr, sw, hh, tx, v, nI 0, g, a, u, sl, kp, mm, P0, L0, sn, pv, r0, gn, vd, x1, x2, x3, x4, x5, x6, x7, txt, txd, bb, rfl, rfl, hTP, hDD, hST, hOF⟩ hP hD hS (lv_sub hl [2, 3, 4, 5, 6] rfl)
  · refine lv_aload_n C.hx C.hb dL_law_1923 rfl (lv_at hl 1 rfl) ?_
    refine lv_aload_n C.hx C.hb dL_law_1924 rfl (lv_at hl 0 rfl) ?_
    refine lv_iload C.hx C.hb dL_law_1925 (lv_at hl 4 rfl) ?_
    refine lv_iconst (v := 1) C.hx C.hb dL_law_1927 (by decide) ?_
    refine lv_iadd C.hx C.hb dL_law_1928 ?_
    refine lq_x C hS hi1 dL_law_1929 ?_
    refine lv_aload_n C.hx C.hb dL_law_1930 rfl (lv_at hl 3 rfl) ?_
    refine lqL (r := 1) (c0 := ⟨nI T, er, nI nd, tp, fd, ee, oo, tt, rr, sw, hh, tx⟩) (c1 := ⟨nI T, er, nI nd, tp, fd, ee, oo, tt, rr, sw, hh, tx⟩) (m0 := ⟨v, nI T, er, th, nW g, nW a, nW u, nW sl, nW kp, nI mm, nW P0, nW L0, sn, pv, nW r0, gn, vd, nI nd, x1, x2, x3, x4, x5, x6, x7, txt, txd⟩) (o := o) (o1 := o) (As := [.ref (Z.ca 0), .int (xs (i + 1).toNatClampNeg), .ref Z.q]) (rest := []) C (c_L_byteAt fu l C.hl0 dC dI K Z.kI Z.kE Z.kL Z.ca Z.a Z.b Z.oa Z.ob Z.ra Z.sa Z.ha Z.ux Z.uy tx (nI T) er (nI nd) tp fd ee oo tt rr sw hh (xs (i + 1).toNatClampNeg) Z.q o H.size _ e1 1 o (Or.inr ⟨rfl, rfl, rfl⟩)) gL_law_L_byteAt qL_byteAt rfl ⟨(Nat.le_of_ble_eq_true rfl), (Nat.le_of_ble_eq_true rfl)⟩ ⟨rfl, rfl⟩ hP hD hS hl.1 rfl rfl (Nat.le_of_ble_eq_true rfl) dL_law_1931 ⟨by omega, by omega⟩ (fun H locs hP hD hS => ?_)
    refine W.widen (k := cells + 8) (n := slots + 48) (by omega) (by omega) ?_
    refine lv_istore (lv' := [(5, .int 1), (0, .ref b), (1, .ref (Z.ca 0)), (2, .ref (Z.ma 0)), (3, .ref Z.q), (4, .int i)]) C.hx C.hb dL_law_1934 hl (by decide) rfl (fun ls hl => ?_)
    refine lv_aload_n C.hx C.hb dL_law_1936 rfl (lv_at hl 3 rfl) ?_
    refine lv_aload_n C.hx C.hb dL_law_1937 rfl (lv_at hl 1 rfl) ?_
    refine lv_iload C.hx C.hb dL_law_1938 (lv_at hl 5 rfl) ?_
    refine lv_iconst (v := 1) C.hx C.hb dL_law_1940 (by decide) ?_
    refine lv_iadd C.hx C.hb dL_law_1941 ?_
    refine lq_x C hS hi1 dL_law_1942 ?_
    refine lqMi (z := nI 0) (c0 := ⟨nI T, er, nI nd, tp, fd, ee, oo, tt, rr, sw, hh, tx⟩) (m0 := ⟨v, nI T, er, th, nW g, nW a, nW u, nW sl, nW kp, nI mm, nW P0, nW L0, sn, pv, nW r0, gn, vd, nI nd, x1, x2, x3, x4, x5, x6, x7, txt, txd⟩) (m1 := ⟨v, nI T, er, nI 1, nW g, nW a, nW u, nW sl, nW kp, nI mm, nW P0, nW L0, sn, pv, nW r0, gn, vd, nI nd, x1, x2, x3, x4, x5, x6, x7, txt, txd⟩) (o := o) (As := [.int (xs (i + 1).toNatClampNeg)]) (rest := []) C (c_X8_byteAt fu l dC dI Z.kI Z.kB Z.kZ Z.ma v (nI T) er th (nW g) (nW a) (nW u) (nW sl) (nW kp) (nI mm) (nW P0) (nW L0) sn pv (nW r0) gn vd (nI nd) x1 x2 x3 x4 x5 x6 x7 txt txd (xs (i + 1).toNatClampNeg) H.size _ e2) gL_law_X8_byteAt qX8_byteAt rfl ⟨(Nat.le_of_ble_eq_true rfl), (Nat.le_of_ble_eq_true rfl)⟩ ⟨rfl, rfl⟩ hP hD hS hl.1 rfl rfl (Nat.le_of_ble_eq_true rfl) dL_law_1943 ⟨by omega, by omega⟩ (fun H locs hP hD hS => ?_)
    refine lv_istore (lv' := [(6, .int (nI 0)), (5, .int 1), (0, .ref b), (1, .ref (Z.ca 0)), (2, .ref (Z.ma 0)), (3, .ref Z.q), (4, .int i)]) C.hx C.hb dL_law_1946 hl (by decide) rfl (fun ls hl => ?_)
    refine lv_aload_n C.hx C.hb dL_law_1948 rfl (lv_at hl 4 rfl) ?_
    refine lqMo (z := nI 1) (c0 := ⟨nI T, er, nI nd, tp, fd, ee, oo, tt, rr, sw, hh, tx⟩) (m0 := ⟨v, nI T, er, nI 1, nW g, nW a, nW u, nW sl, nW kp, nI mm, nW P0, nW L0, sn, pv, nW r0, gn, vd, nI nd, x1, x2, x3, x4, x5, x6, x7, txt, txd⟩) (o := o) (As := []) (rest := []) C (c_X8_thrown l dC dI Z.kI Z.kB Z.kZ Z.ma v (nI T) er (nI 1) (nW g) (nW a) (nW u) (nW sl) (nW kp) (nI mm) (nW P0) (nW L0) sn pv (nW r0) gn vd (nI nd) x1 x2 x3 x4 x5 x6 x7 txt txd (nI 1) rfl) gL_law_X8_thrown qX8_thrown rfl ⟨(Nat.le_of_ble_eq_true rfl), (Nat.le_of_ble_eq_true rfl)⟩ ⟨rfl, rfl⟩ hP hD hS hl.1 rfl rfl (Nat.le_of_ble_eq_true rfl) dL_law_1949 ⟨by omega, by omega⟩ (fun H locs hP hD hS => ?_)
    refine lv_iload C.hx C.hb dL_law_1952 (lv_at hl 1 rfl) ?_
    refine lv_icmp_eq (tgt := 1959) C.hx C.hb dL_law_1954 (by decide) (fun _ => ?_) (fun h9 => absurd (by first | rfl | decide) h9)
    refine lv_iload C.hx C.hb dL_law_1959 (lv_at hl 1 rfl) ?_
    refine lv_if_ne (tgt := 1976) C.hx C.hb dL_law_1961 (by decide) (fun _ => ?_) (fun h9 => absurd h9 (by decide))
    refine lv_goto (tgt := 2318) C.hx C.hb dL_law_1976 (by decide) ?_
    exact KK ⟨nI T, er, nI nd, tp, fd, ee, oo, tt, rr, sw, hh, tx⟩ ⟨v, nI T, er, nI 1, nW g, nW a, nW u, nW sl, nW kp, nI mm, nW P0, nW L0, sn, pv, nW r0, gn, vd, nI nd, x1, x2, x3, x4, x5, x6, x7, txt, txd⟩ o H locs ls ⟨T, er, nd, tp, fd, ee, oo, tt, rr, sw, hh, tx, v, nI 1, g, a, u, sl, kp, mm, P0, L0, sn, pv, r0, gn, vd, x1, x2, x3, x4, x5, x6, x7, txt, txd, bb, rfl, rfl, hTP, hDD, hST, hOF⟩ hP hD hS (lv_sub hl [2, 3, 4, 5, 6] rfl)
end LCASES2
