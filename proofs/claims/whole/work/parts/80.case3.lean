section LCASES3
variable {p : Program} {l : Launch} {e : Env} {s : State} {m : MethodId} {args : Array Value} {below : List Frame} {meth : Method} {c : Code} {H : Heap} {locs : List Loc} {cells slots : Nat} {Q : State → Prop}
variable {ls : Array Slot} {A0 : Nat → Prop} {K : KT} {dC : Nat → ClassId} {dI : Nat → Nat → Nat} {Z : AD} {b L : Nat} {xs : Nat → Int32} {c0 : CS} {m0 : MS} {o : Nat → Int64} {i : Int32} {fu : Nat}
set_option maxHeartbeats 4000000 in
set_option maxRecDepth 100000 in
theorem lc_45 (C : LC p l s m args c A0 K dC dI Z b L xs) (hf : 20000 ≤ fu) (hR : REL c0 m0) (hP : va_P (dC, dI) vwCl (LW Z c0 m0 o) H) (hD : va_D A0 (LW Z c0 m0 o)) (hS : va_S A0 s.heap H locs) (hl : lv_has ls 9 [(0, .ref b), (1, .ref (Z.ca 0)), (2, .ref (Z.ma 0)), (3, .ref Z.q), (4, .int i)])  (hcl : cells + 8 ≤ room_1.cells ∧ slots + 48 ≤ room_1.slots) (KK : LKK p l e s m args below meth c (cells + 8) (slots + 48) Q A0 dC dI Z b i) : W p l e room_1 s m args below meth c H locs cells slots Q (F0 m 1979 ls []) := by
  obtain ⟨hc1, hc2⟩ := hcl
  obtain ⟨T, er, nd, tp, fd, ee, oo, tt, rr, sw, hh, tx, v, th, g, a, u, sl, kp, mm, P0, L0, sn, pv, r0, gn, vd, x1, x2, x3, x4, x5, x6, x7, txt, txd, bb, rfl, rfl, hTP, hDD, hST, hOF⟩ := hR
  have hRE := hST.1
  have hG := hST.2.1
  obtain ⟨w, e1, e2⟩ := (t_looks0 fu hf th hRE hG).2.2.2.2.2.2.2.2.1
  refine lv_aload_n C.hx C.hb dL_law_1979 rfl (lv_at hl 1 rfl) ?_
  refine lqRi (z := w) (c0 := ⟨nI T, er, nI nd, tp, fd, ee, oo, tt, rr, sw, hh, tx⟩) (m0 := ⟨v, nI T, er, th, nW g, nW a, nW u, nW sl, nW kp, nI mm, nW P0, nW L0, sn, pv, nW r0, gn, vd, nI nd, x1, x2, x3, x4, x5, x6, x7, txt, txd⟩) (o := o) (As := []) (rest := []) C (c_X7_clearCount l dC dI Z.kI Z.kE Z.ca Z.a Z.b Z.oa Z.ob Z.ra Z.sa Z.ha Z.ux Z.uy tx (nI T) er (nI nd) tp fd ee oo tt rr sw hh _ e1) gL_law_X7_clearCount qX7_clearCount rfl ⟨(Nat.le_of_ble_eq_true rfl), (Nat.le_of_ble_eq_true rfl)⟩ ⟨rfl, rfl⟩ hP hD hS hl.1 rfl rfl (Nat.le_of_ble_eq_true rfl) dL_law_1980 ⟨by omega, by omega⟩ (fun H locs hP hD hS => ?_)
  refine lv_aload_n C.hx C.hb dL_law_1983 rfl (lv_at hl 2 rfl) ?_
  refine lqMi (z := w) (c0 := ⟨nI T, er, nI nd, tp, fd, ee, oo, tt, rr, sw, hh, tx⟩) (m0 := ⟨v, nI T, er, th, nW g, nW a, nW u, nW sl, nW kp, nI mm, nW P0, nW L0, sn, pv, nW r0, gn, vd, nI nd, x1, x2, x3, x4, x5, x6, x7, txt, txd⟩) (m1 := ⟨v, nI T, er, nI 0, nW g, nW a, nW u, nW sl, nW kp, nI mm, nW P0, nW L0, sn, pv, nW r0, gn, vd, nI nd, x1, x2, x3, x4, x5, x6, x7, txt, txd⟩) (o := o) (As := []) (rest := [.int w]) C (c_X8_clearCount l dC dI Z.kI Z.kB Z.kZ Z.ma v (nI T) er th (nW g) (nW a) (nW u) (nW sl) (nW kp) (nI mm) (nW P0) (nW L0) sn pv (nW r0) gn vd (nI nd) x1 x2 x3 x4 x5 x6 x7 txt txd H.size _ e2) gL_law_X8_clearCount qX8_clearCount rfl ⟨(Nat.le_of_ble_eq_true rfl), (Nat.le_of_ble_eq_true rfl)⟩ ⟨rfl, rfl⟩ hP hD hS hl.1 rfl rfl (Nat.le_of_ble_eq_true rfl) dL_law_1984 ⟨by omega, by omega⟩ (fun H locs hP hD hS => ?_)
  refine lv_icmp_eq (tgt := 2318) C.hx C.hb dL_law_1987 (by decide) (fun _ => ?_) (fun h9 => absurd (by first | rfl | decide) h9)
  refine W.widen (k := cells + 8) (n := slots + 48) (by omega) (by omega) ?_
  exact KK ⟨nI T, er, nI nd, tp, fd, ee, oo, tt, rr, sw, hh, tx⟩ ⟨v, nI T, er, nI 0, nW g, nW a, nW u, nW sl, nW kp, nI mm, nW P0, nW L0, sn, pv, nW r0, gn, vd, nI nd, x1, x2, x3, x4, x5, x6, x7, txt, txd⟩ o H locs ls ⟨T, er, nd, tp, fd, ee, oo, tt, rr, sw, hh, tx, v, nI 0, g, a, u, sl, kp, mm, P0, L0, sn, pv, r0, gn, vd, x1, x2, x3, x4, x5, x6, x7, txt, txd, bb, rfl, rfl, hTP, hDD, hST, hOF⟩ hP hD hS (lv_sub hl [0, 1, 2, 3, 4] rfl)
set_option maxHeartbeats 4000000 in
set_option maxRecDepth 100000 in
theorem lc_46 (C : LC p l s m args c A0 K dC dI Z b L xs) (hf : 20000 ≤ fu) (hR : REL c0 m0) (hP : va_P (dC, dI) vwCl (LW Z c0 m0 o) H) (hD : va_D A0 (LW Z c0 m0 o)) (hS : va_S A0 s.heap H locs) (hl : lv_has ls 9 [(0, .ref b), (1, .ref (Z.ca 0)), (2, .ref (Z.ma 0)), (3, .ref Z.q), (4, .int i)])  (hcl : cells + 8 ≤ room_1.cells ∧ slots + 48 ≤ room_1.slots) (KK : LKK p l e s m args below meth c (cells + 8) (slots + 48) Q A0 dC dI Z b i) : W p l e room_1 s m args below meth c H locs cells slots Q (F0 m 1992 ls []) := by
  obtain ⟨hc1, hc2⟩ := hcl
  obtain ⟨T, er, nd, tp, fd, ee, oo, tt, rr, sw, hh, tx, v, th, g, a, u, sl, kp, mm, P0, L0, sn, pv, r0, gn, vd, x1, x2, x3, x4, x5, x6, x7, txt, txd, bb, rfl, rfl, hTP, hDD, hST, hOF⟩ := hR
  have hRE := hST.1
  have hG := hST.2.1
  obtain ⟨w, e1, e2⟩ := (t_looks0 fu hf th hRE hG).2.2.2.2.2.2.2.2.2
  refine lv_aload_n C.hx C.hb dL_law_1992 rfl (lv_at hl 1 rfl) ?_
  refine lqRi (z := w) (c0 := ⟨nI T, er, nI nd, tp, fd, ee, oo, tt, rr, sw, hh, tx⟩) (m0 := ⟨v, nI T, er, th, nW g, nW a, nW u, nW sl, nW kp, nI mm, nW P0, nW L0, sn, pv, nW r0, gn, vd, nI nd, x1, x2, x3, x4, x5, x6, x7, txt, txd⟩) (o := o) (As := []) (rest := []) C (c_X7_codesSinceClear l dC dI Z.kI Z.kE Z.ca Z.a Z.b Z.oa Z.ob Z.ra Z.sa Z.ha Z.ux Z.uy tx (nI T) er (nI nd) tp fd ee oo tt rr sw hh _ e1) gL_law_X7_codesSinceClear qX7_codesSinceClear rfl ⟨(Nat.le_of_ble_eq_true rfl), (Nat.le_of_ble_eq_true rfl)⟩ ⟨rfl, rfl⟩ hP hD hS hl.1 rfl rfl (Nat.le_of_ble_eq_true rfl) dL_law_1993 ⟨by omega, by omega⟩ (fun H locs hP hD hS => ?_)
  refine lv_aload_n C.hx C.hb dL_law_1996 rfl (lv_at hl 2 rfl) ?_
  refine lqMi (z := w) (c0 := ⟨nI T, er, nI nd, tp, fd, ee, oo, tt, rr, sw, hh, tx⟩) (m0 := ⟨v, nI T, er, th, nW g, nW a, nW u, nW sl, nW kp, nI mm, nW P0, nW L0, sn, pv, nW r0, gn, vd, nI nd, x1, x2, x3, x4, x5, x6, x7, txt, txd⟩) (m1 := ⟨v, nI T, er, nI 0, nW g, nW a, nW u, nW sl, nW kp, nI mm, nW P0, nW L0, sn, pv, nW r0, gn, vd, nI nd, x1, x2, x3, x4, x5, x6, x7, txt, txd⟩) (o := o) (As := []) (rest := [.int w]) C (c_X8_codesSinceClear l dC dI Z.kI Z.kB Z.kZ Z.ma v (nI T) er th (nW g) (nW a) (nW u) (nW sl) (nW kp) (nI mm) (nW P0) (nW L0) sn pv (nW r0) gn vd (nI nd) x1 x2 x3 x4 x5 x6 x7 txt txd H.size _ e2) gL_law_X8_codesSinceClear qX8_codesSinceClear rfl ⟨(Nat.le_of_ble_eq_true rfl), (Nat.le_of_ble_eq_true rfl)⟩ ⟨rfl, rfl⟩ hP hD hS hl.1 rfl rfl (Nat.le_of_ble_eq_true rfl) dL_law_1997 ⟨by omega, by omega⟩ (fun H locs hP hD hS => ?_)
  refine lv_icmp_eq (tgt := 2318) C.hx C.hb dL_law_2000 (by decide) (fun _ => ?_) (fun h9 => absurd (by first | rfl | decide) h9)
  refine W.widen (k := cells + 8) (n := slots + 48) (by omega) (by omega) ?_
  exact KK ⟨nI T, er, nI nd, tp, fd, ee, oo, tt, rr, sw, hh, tx⟩ ⟨v, nI T, er, nI 0, nW g, nW a, nW u, nW sl, nW kp, nI mm, nW P0, nW L0, sn, pv, nW r0, gn, vd, nI nd, x1, x2, x3, x4, x5, x6, x7, txt, txd⟩ o H locs ls ⟨T, er, nd, tp, fd, ee, oo, tt, rr, sw, hh, tx, v, nI 0, g, a, u, sl, kp, mm, P0, L0, sn, pv, r0, gn, vd, x1, x2, x3, x4, x5, x6, x7, txt, txd, bb, rfl, rfl, hTP, hDD, hST, hOF⟩ hP hD hS (lv_sub hl [0, 1, 2, 3, 4] rfl)
set_option maxHeartbeats 4000000 in
set_option maxRecDepth 100000 in
theorem lc_47 (C : LC p l s m args c A0 K dC dI Z b L xs) (hf : 20000 ≤ fu) (hR : REL c0 m0) (hP : va_P (dC, dI) vwCl (LW Z c0 m0 o) H) (hD : va_D A0 (LW Z c0 m0 o)) (hS : va_S A0 s.heap H locs) (hl : lv_has ls 9 [(0, .ref b), (1, .ref (Z.ca 0)), (2, .ref (Z.ma 0)), (3, .ref Z.q), (4, .int i)])  (hcl : cells + 8 ≤ room_1.cells ∧ slots + 48 ≤ room_1.slots) (KK : LKK p l e s m args below meth c (cells + 8) (slots + 48) Q A0 dC dI Z b i) : W p l e room_1 s m args below meth c H locs cells slots Q (F0 m 2005 ls []) := by
  obtain ⟨hc1, hc2⟩ := hcl
  obtain ⟨T, er, nd, tp, fd, ee, oo, tt, rr, sw, hh, tx, v, th, g, a, u, sl, kp, mm, P0, L0, sn, pv, r0, gn, vd, x1, x2, x3, x4, x5, x6, x7, txt, txd, bb, rfl, rfl, hTP, hDD, hST, hOF⟩ := hR
  have hRE := hST.1
  have hG := hST.2.1
  obtain ⟨w, e1, e2⟩ := (t_looks1 fu hf th hRE hG).2.2.2.1
  refine lv_aload_n C.hx C.hb dL_law_2005 rfl (lv_at hl 1 rfl) ?_
  refine lqRi (z := w) (c0 := ⟨nI T, er, nI nd, tp, fd, ee, oo, tt, rr, sw, hh, tx⟩) (m0 := ⟨v, nI T, er, th, nW g, nW a, nW u, nW sl, nW kp, nI mm, nW P0, nW L0, sn, pv, nW r0, gn, vd, nI nd, x1, x2, x3, x4, x5, x6, x7, txt, txd⟩) (o := o) (As := []) (rest := []) C (c_X7_symbolsSinceClear l dC dI Z.kI Z.kE Z.ca Z.a Z.b Z.oa Z.ob Z.ra Z.sa Z.ha Z.ux Z.uy tx (nI T) er (nI nd) tp fd ee oo tt rr sw hh _ e1) gL_law_X7_symbolsSinceClear qX7_symbolsSinceClear rfl ⟨(Nat.le_of_ble_eq_true rfl), (Nat.le_of_ble_eq_true rfl)⟩ ⟨rfl, rfl⟩ hP hD hS hl.1 rfl rfl (Nat.le_of_ble_eq_true rfl) dL_law_2006 ⟨by omega, by omega⟩ (fun H locs hP hD hS => ?_)
  refine lv_aload_n C.hx C.hb dL_law_2009 rfl (lv_at hl 2 rfl) ?_
  refine lqMi (z := w) (c0 := ⟨nI T, er, nI nd, tp, fd, ee, oo, tt, rr, sw, hh, tx⟩) (m0 := ⟨v, nI T, er, th, nW g, nW a, nW u, nW sl, nW kp, nI mm, nW P0, nW L0, sn, pv, nW r0, gn, vd, nI nd, x1, x2, x3, x4, x5, x6, x7, txt, txd⟩) (m1 := ⟨v, nI T, er, nI 0, nW g, nW a, nW u, nW sl, nW kp, nI mm, nW P0, nW L0, sn, pv, nW r0, gn, vd, nI nd, x1, x2, x3, x4, x5, x6, x7, txt, txd⟩) (o := o) (As := []) (rest := [.int w]) C (c_X8_symbolsSinceClear fu l dC dI Z.kI Z.kB Z.kZ Z.ma v (nI T) er th (nW g) (nW a) (nW u) (nW sl) (nW kp) (nI mm) (nW P0) (nW L0) sn pv (nW r0) gn vd (nI nd) x1 x2 x3 x4 x5 x6 x7 txt txd H.size _ e2) gL_law_X8_symbolsSinceClear qX8_symbolsSinceClear rfl ⟨(Nat.le_of_ble_eq_true rfl), (Nat.le_of_ble_eq_true rfl)⟩ ⟨rfl, rfl⟩ hP hD hS hl.1 rfl rfl (Nat.le_of_ble_eq_true rfl) dL_law_2010 ⟨by omega, by omega⟩ (fun H locs hP hD hS => ?_)
  refine lv_icmp_eq (tgt := 2318) C.hx C.hb dL_law_2013 (by decide) (fun _ => ?_) (fun h9 => absurd (by first | rfl | decide) h9)
  refine W.widen (k := cells + 8) (n := slots + 48) (by omega) (by omega) ?_
  exact KK ⟨nI T, er, nI nd, tp, fd, ee, oo, tt, rr, sw, hh, tx⟩ ⟨v, nI T, er, nI 0, nW g, nW a, nW u, nW sl, nW kp, nI mm, nW P0, nW L0, sn, pv, nW r0, gn, vd, nI nd, x1, x2, x3, x4, x5, x6, x7, txt, txd⟩ o H locs ls ⟨T, er, nd, tp, fd, ee, oo, tt, rr, sw, hh, tx, v, nI 0, g, a, u, sl, kp, mm, P0, L0, sn, pv, r0, gn, vd, x1, x2, x3, x4, x5, x6, x7, txt, txd, bb, rfl, rfl, hTP, hDD, hST, hOF⟩ hP hD hS (lv_sub hl [0, 1, 2, 3, 4] rfl)
set_option maxHeartbeats 4000000 in
set_option maxRecDepth 100000 in
theorem lc_48 (C : LC p l s m args c A0 K dC dI Z b L xs) (hf : 20000 ≤ fu) (hR : REL c0 m0) (hP : va_P (dC, dI) vwCl (LW Z c0 m0 o) H) (hD : va_D A0 (LW Z c0 m0 o)) (hS : va_S A0 s.heap H locs) (hl : lv_has ls 9 [(0, .ref b), (1, .ref (Z.ca 0)), (2, .ref (Z.ma 0)), (3, .ref Z.q), (4, .int i)])  (hcl : cells + 8 ≤ room_1.cells ∧ slots + 48 ≤ room_1.slots) (KK : LKK p l e s m args below meth c (cells + 8) (slots + 48) Q A0 dC dI Z b i) : W p l e room_1 s m args below meth c H locs cells slots Q (F0 m 2018 ls []) := by
  obtain ⟨hc1, hc2⟩ := hcl
  obtain ⟨T, er, nd, tp, fd, ee, oo, tt, rr, sw, hh, tx, v, th, g, a, u, sl, kp, mm, P0, L0, sn, pv, r0, gn, vd, x1, x2, x3, x4, x5, x6, x7, txt, txd, bb, rfl, rfl, hTP, hDD, hST, hOF⟩ := hR
  have hRE := hST.1
  have hG := hST.2.1
  obtain ⟨w, e1, e2⟩ := (t_looks1 fu hf th hRE hG).2.2.2.2.1
  refine lv_aload_n C.hx C.hb dL_law_2018 rfl (lv_at hl 1 rfl) ?_
  refine lqRi (z := w) (c0 := ⟨nI T, er, nI nd, tp, fd, ee, oo, tt, rr, sw, hh, tx⟩) (m0 := ⟨v, nI T, er, th, nW g, nW a, nW u, nW sl, nW kp, nI mm, nW P0, nW L0, sn, pv, nW r0, gn, vd, nI nd, x1, x2, x3, x4, x5, x6, x7, txt, txd⟩) (o := o) (As := []) (rest := []) C (c_X7_bitsSinceClear l dC dI Z.kI Z.kE Z.ca Z.a Z.b Z.oa Z.ob Z.ra Z.sa Z.ha Z.ux Z.uy tx (nI T) er (nI nd) tp fd ee oo tt rr sw hh _ e1) gL_law_X7_bitsSinceClear qX7_bitsSinceClear rfl ⟨(Nat.le_of_ble_eq_true rfl), (Nat.le_of_ble_eq_true rfl)⟩ ⟨rfl, rfl⟩ hP hD hS hl.1 rfl rfl (Nat.le_of_ble_eq_true rfl) dL_law_2019 ⟨by omega, by omega⟩ (fun H locs hP hD hS => ?_)
  refine lv_aload_n C.hx C.hb dL_law_2022 rfl (lv_at hl 2 rfl) ?_
  refine lqMi (z := w) (c0 := ⟨nI T, er, nI nd, tp, fd, ee, oo, tt, rr, sw, hh, tx⟩) (m0 := ⟨v, nI T, er, th, nW g, nW a, nW u, nW sl, nW kp, nI mm, nW P0, nW L0, sn, pv, nW r0, gn, vd, nI nd, x1, x2, x3, x4, x5, x6, x7, txt, txd⟩) (m1 := ⟨v, nI T, er, nI 0, nW g, nW a, nW u, nW sl, nW kp, nI mm, nW P0, nW L0, sn, pv, nW r0, gn, vd, nI nd, x1, x2, x3, x4, x5, x6, x7, txt, txd⟩) (o := o) (As := []) (rest := [.int w]) C (c_X8_bitsSinceClear fu l dC dI Z.kI Z.kB Z.kZ Z.ma v (nI T) er th (nW g) (nW a) (nW u) (nW sl) (nW kp) (nI mm) (nW P0) (nW L0) sn pv (nW r0) gn vd (nI nd) x1 x2 x3 x4 x5 x6 x7 txt txd H.size _ e2) gL_law_X8_bitsSinceClear qX8_bitsSinceClear rfl ⟨(Nat.le_of_ble_eq_true rfl), (Nat.le_of_ble_eq_true rfl)⟩ ⟨rfl, rfl⟩ hP hD hS hl.1 rfl rfl (Nat.le_of_ble_eq_true rfl) dL_law_2023 ⟨by omega, by omega⟩ (fun H locs hP hD hS => ?_)
  refine lv_icmp_eq (tgt := 2318) C.hx C.hb dL_law_2026 (by decide) (fun _ => ?_) (fun h9 => absurd (by first | rfl | decide) h9)
  refine W.widen (k := cells + 8) (n := slots + 48) (by omega) (by omega) ?_
  exact KK ⟨nI T, er, nI nd, tp, fd, ee, oo, tt, rr, sw, hh, tx⟩ ⟨v, nI T, er, nI 0, nW g, nW a, nW u, nW sl, nW kp, nI mm, nW P0, nW L0, sn, pv, nW r0, gn, vd, nI nd, x1, x2, x3, x4, x5, x6, x7, txt, txd⟩ o H locs ls ⟨T, er, nd, tp, fd, ee, oo, tt, rr, sw, hh, tx, v, nI 0, g, a, u, sl, kp, mm, P0, L0, sn, pv, r0, gn, vd, x1, x2, x3, x4, x5, x6, x7, txt, txd, bb, rfl, rfl, hTP, hDD, hST, hOF⟩ hP hD hS (lv_sub hl [0, 1, 2, 3, 4] rfl)
set_option maxHeartbeats 4000000 in
set_option maxRecDepth 100000 in
theorem lc_49 (C : LC p l s m args c A0 K dC dI Z b L xs) (hf : 20000 ≤ fu) (hR : REL c0 m0) (hP : va_P (dC, dI) vwCl (LW Z c0 m0 o) H) (hD : va_D A0 (LW Z c0 m0 o)) (hS : va_S A0 s.heap H locs) (hl : lv_has ls 9 [(0, .ref b), (1, .ref (Z.ca 0)), (2, .ref (Z.ma 0)), (3, .ref Z.q), (4, .int i)])  (hcl : cells + 8 ≤ room_1.cells ∧ slots + 48 ≤ room_1.slots) (KK : LKK p l e s m args below meth c (cells + 8) (slots + 48) Q A0 dC dI Z b i) : W p l e room_1 s m args below meth c H locs cells slots Q (F0 m 2031 ls []) := by
  obtain ⟨hc1, hc2⟩ := hcl
  obtain ⟨T, er, nd, tp, fd, ee, oo, tt, rr, sw, hh, tx, v, th, g, a, u, sl, kp, mm, P0, L0, sn, pv, r0, gn, vd, x1, x2, x3, x4, x5, x6, x7, txt, txd, bb, rfl, rfl, hTP, hDD, hST, hOF⟩ := hR
  have hRE := hST.1
  have hG := hST.2.1
  obtain ⟨w, e1, e2⟩ := (t_looks1 fu hf th hRE hG).2.2.2.2.2.2.1
  refine lv_aload_n C.hx C.hb dL_law_2031 rfl (lv_at hl 1 rfl) ?_
  refine lqRi (z := w) (c0 := ⟨nI T, er, nI nd, tp, fd, ee, oo, tt, rr, sw, hh, tx⟩) (m0 := ⟨v, nI T, er, th, nW g, nW a, nW u, nW sl, nW kp, nI mm, nW P0, nW L0, sn, pv, nW r0, gn, vd, nI nd, x1, x2, x3, x4, x5, x6, x7, txt, txd⟩) (o := o) (As := []) (rest := []) C (c_X7_percentSinceClear fu l dC dI Z.kI Z.kE Z.ca Z.a Z.b Z.oa Z.ob Z.ra Z.sa Z.ha Z.ux Z.uy tx (nI T) er (nI nd) tp fd ee oo tt rr sw hh _ e1) gL_law_X7_percentSinceClear qX7_percentSinceClear rfl ⟨(Nat.le_of_ble_eq_true rfl), (Nat.le_of_ble_eq_true rfl)⟩ ⟨rfl, rfl⟩ hP hD hS hl.1 rfl rfl (Nat.le_of_ble_eq_true rfl) dL_law_2032 ⟨by omega, by omega⟩ (fun H locs hP hD hS => ?_)
  refine lv_aload_n C.hx C.hb dL_law_2035 rfl (lv_at hl 2 rfl) ?_
  refine lqMi (z := w) (c0 := ⟨nI T, er, nI nd, tp, fd, ee, oo, tt, rr, sw, hh, tx⟩) (m0 := ⟨v, nI T, er, th, nW g, nW a, nW u, nW sl, nW kp, nI mm, nW P0, nW L0, sn, pv, nW r0, gn, vd, nI nd, x1, x2, x3, x4, x5, x6, x7, txt, txd⟩) (m1 := ⟨v, nI T, er, nI 0, nW g, nW a, nW u, nW sl, nW kp, nI mm, nW P0, nW L0, sn, pv, nW r0, gn, vd, nI nd, x1, x2, x3, x4, x5, x6, x7, txt, txd⟩) (o := o) (As := []) (rest := [.int w]) C (c_X8_percentSinceClear fu l dC dI Z.kI Z.kB Z.kZ Z.ma v (nI T) er th (nW g) (nW a) (nW u) (nW sl) (nW kp) (nI mm) (nW P0) (nW L0) sn pv (nW r0) gn vd (nI nd) x1 x2 x3 x4 x5 x6 x7 txt txd H.size _ e2) gL_law_X8_percentSinceClear qX8_percentSinceClear rfl ⟨(Nat.le_of_ble_eq_true rfl), (Nat.le_of_ble_eq_true rfl)⟩ ⟨rfl, rfl⟩ hP hD hS hl.1 rfl rfl (Nat.le_of_ble_eq_true rfl) dL_law_2036 ⟨by omega, by omega⟩ (fun H locs hP hD hS => ?_)
  refine lv_icmp_eq (tgt := 2318) C.hx C.hb dL_law_2039 (by decide) (fun _ => ?_) (fun h9 => absurd (by first | rfl | decide) h9)
  refine W.widen (k := cells + 8) (n := slots + 48) (by omega) (by omega) ?_
  exact KK ⟨nI T, er, nI nd, tp, fd, ee, oo, tt, rr, sw, hh, tx⟩ ⟨v, nI T, er, nI 0, nW g, nW a, nW u, nW sl, nW kp, nI mm, nW P0, nW L0, sn, pv, nW r0, gn, vd, nI nd, x1, x2, x3, x4, x5, x6, x7, txt, txd⟩ o H locs ls ⟨T, er, nd, tp, fd, ee, oo, tt, rr, sw, hh, tx, v, nI 0, g, a, u, sl, kp, mm, P0, L0, sn, pv, r0, gn, vd, x1, x2, x3, x4, x5, x6, x7, txt, txd, bb, rfl, rfl, hTP, hDD, hST, hOF⟩ hP hD hS (lv_sub hl [0, 1, 2, 3, 4] rfl)
set_option maxHeartbeats 4000000 in
set_option maxRecDepth 100000 in
theorem lc_50 (C : LC p l s m args c A0 K dC dI Z b L xs) (hf : 20000 ≤ fu) (hR : REL c0 m0) (hP : va_P (dC, dI) vwCl (LW Z c0 m0 o) H) (hD : va_D A0 (LW Z c0 m0 o)) (hS : va_S A0 s.heap H locs) (hl : lv_has ls 9 [(0, .ref b), (1, .ref (Z.ca 0)), (2, .ref (Z.ma 0)), (3, .ref Z.q), (4, .int i)])  (hcl : cells + 8 ≤ room_1.cells ∧ slots + 48 ≤ room_1.slots) (KK : LKK p l e s m args below meth c (cells + 8) (slots + 48) Q A0 dC dI Z b i) : W p l e room_1 s m args below meth c H locs cells slots Q (F0 m 2044 ls []) := by
  obtain ⟨hc1, hc2⟩ := hcl
  obtain ⟨T, er, nd, tp, fd, ee, oo, tt, rr, sw, hh, tx, v, th, g, a, u, sl, kp, mm, P0, L0, sn, pv, r0, gn, vd, x1, x2, x3, x4, x5, x6, x7, txt, txd, bb, rfl, rfl, hTP, hDD, hST, hOF⟩ := hR
  have hRE := hST.1
  have hG := hST.2.1
  obtain ⟨w, e1, e2⟩ := t_savedBits fu hf th hRE hG
  refine lv_aload_n C.hx C.hb dL_law_2044 rfl (lv_at hl 1 rfl) ?_
  refine lqRi (z := w) (c0 := ⟨nI T, er, nI nd, tp, fd, ee, oo, tt, rr, sw, hh, tx⟩) (m0 := ⟨v, nI T, er, th, nW g, nW a, nW u, nW sl, nW kp, nI mm, nW P0, nW L0, sn, pv, nW r0, gn, vd, nI nd, x1, x2, x3, x4, x5, x6, x7, txt, txd⟩) (o := o) (As := []) (rest := []) C (c_X7_savedBits fu l dC dI Z.kI Z.kE Z.ca Z.a Z.b Z.oa Z.ob Z.ra Z.sa Z.ha Z.ux Z.uy tx (nI T) er (nI nd) tp fd ee oo tt rr sw hh _ e1) gL_law_X7_savedBits qX7_savedBits rfl ⟨(Nat.le_of_ble_eq_true rfl), (Nat.le_of_ble_eq_true rfl)⟩ ⟨rfl, rfl⟩ hP hD hS hl.1 rfl rfl (Nat.le_of_ble_eq_true rfl) dL_law_2045 ⟨by omega, by omega⟩ (fun H locs hP hD hS => ?_)
  refine lv_aload_n C.hx C.hb dL_law_2048 rfl (lv_at hl 2 rfl) ?_
  refine lqMi (z := w) (c0 := ⟨nI T, er, nI nd, tp, fd, ee, oo, tt, rr, sw, hh, tx⟩) (m0 := ⟨v, nI T, er, th, nW g, nW a, nW u, nW sl, nW kp, nI mm, nW P0, nW L0, sn, pv, nW r0, gn, vd, nI nd, x1, x2, x3, x4, x5, x6, x7, txt, txd⟩) (m1 := ⟨v, nI T, er, nI 0, nW g, nW a, nW u, nW sl, nW kp, nI mm, nW P0, nW L0, sn, pv, nW r0, gn, vd, nI nd, x1, x2, x3, x4, x5, x6, x7, txt, txd⟩) (o := o) (As := []) (rest := [.int w]) C (c_X8_savedBits fu l dC dI Z.kI Z.kB Z.kZ Z.ma v (nI T) er th (nW g) (nW a) (nW u) (nW sl) (nW kp) (nI mm) (nW P0) (nW L0) sn pv (nW r0) gn vd (nI nd) x1 x2 x3 x4 x5 x6 x7 txt txd H.size _ e2) gL_law_X8_savedBits qX8_savedBits rfl ⟨(Nat.le_of_ble_eq_true rfl), (Nat.le_of_ble_eq_true rfl)⟩ ⟨rfl, rfl⟩ hP hD hS hl.1 rfl rfl (Nat.le_of_ble_eq_true rfl) dL_law_2049 ⟨by omega, by omega⟩ (fun H locs hP hD hS => ?_)
  refine lv_icmp_eq (tgt := 2318) C.hx C.hb dL_law_2052 (by decide) (fun _ => ?_) (fun h9 => absurd (by first | rfl | decide) h9)
  refine W.widen (k := cells + 8) (n := slots + 48) (by omega) (by omega) ?_
  exact KK ⟨nI T, er, nI nd, tp, fd, ee, oo, tt, rr, sw, hh, tx⟩ ⟨v, nI T, er, nI 0, nW g, nW a, nW u, nW sl, nW kp, nI mm, nW P0, nW L0, sn, pv, nW r0, gn, vd, nI nd, x1, x2, x3, x4, x5, x6, x7, txt, txd⟩ o H locs ls ⟨T, er, nd, tp, fd, ee, oo, tt, rr, sw, hh, tx, v, nI 0, g, a, u, sl, kp, mm, P0, L0, sn, pv, r0, gn, vd, x1, x2, x3, x4, x5, x6, x7, txt, txd, bb, rfl, rfl, hTP, hDD, hST, hOF⟩ hP hD hS (lv_sub hl [0, 1, 2, 3, 4] rfl)
set_option maxHeartbeats 4000000 in
set_option maxRecDepth 100000 in
theorem lc_51 (C : LC p l s m args c A0 K dC dI Z b L xs) (hf : 20000 ≤ fu) (hR : REL c0 m0) (hP : va_P (dC, dI) vwCl (LW Z c0 m0 o) H) (hD : va_D A0 (LW Z c0 m0 o)) (hS : va_S A0 s.heap H locs) (hl : lv_has ls 9 [(0, .ref b), (1, .ref (Z.ca 0)), (2, .ref (Z.ma 0)), (3, .ref Z.q), (4, .int i)])  (hcl : cells + 8 ≤ room_1.cells ∧ slots + 48 ≤ room_1.slots) (KK : LKK p l e s m args below meth c (cells + 8) (slots + 48) Q A0 dC dI Z b i) : W p l e room_1 s m args below meth c H locs cells slots Q (F0 m 2057 ls []) := by
  obtain ⟨hc1, hc2⟩ := hcl
  obtain ⟨T, er, nd, tp, fd, ee, oo, tt, rr, sw, hh, tx, v, th, g, a, u, sl, kp, mm, P0, L0, sn, pv, r0, gn, vd, x1, x2, x3, x4, x5, x6, x7, txt, txd, bb, rfl, rfl, hTP, hDD, hST, hOF⟩ := hR
  have hRE := hST.1
  have hG := hST.2.1
  obtain ⟨w, e1, e2⟩ := t_bitsPerSymbol fu hf th hRE hG
  refine lv_aload_n C.hx C.hb dL_law_2057 rfl (lv_at hl 1 rfl) ?_
  refine lqRd (z := w) (c0 := ⟨nI T, er, nI nd, tp, fd, ee, oo, tt, rr, sw, hh, tx⟩) (m0 := ⟨v, nI T, er, th, nW g, nW a, nW u, nW sl, nW kp, nI mm, nW P0, nW L0, sn, pv, nW r0, gn, vd, nI nd, x1, x2, x3, x4, x5, x6, x7, txt, txd⟩) (o := o) (As := []) (rest := []) C (c_X7_bitsPerSymbol l dC dI Z.kI Z.kE Z.ca Z.a Z.b Z.oa Z.ob Z.ra Z.sa Z.ha Z.ux Z.uy tx (nI T) er (nI nd) tp fd ee oo tt rr sw hh _ e1) gL_law_X7_bitsPerSymbol qX7_bitsPerSymbol rfl ⟨(Nat.le_of_ble_eq_true rfl), (Nat.le_of_ble_eq_true rfl)⟩ ⟨rfl, rfl⟩ hP hD hS hl.1 rfl rfl (Nat.le_of_ble_eq_true rfl) dL_law_2058 ⟨by omega, by omega⟩ (fun H locs hP hD hS => ?_)
  refine lv_dstore (lv' := [(5, .double w), (0, .ref b), (1, .ref (Z.ca 0)), (2, .ref (Z.ma 0)), (3, .ref Z.q), (4, .int i)]) C.hx C.hb dL_law_2061 hl (by decide) rfl (fun ls hl => ?_)
  refine lv_aload_n C.hx C.hb dL_law_2063 rfl (lv_at hl 3 rfl) ?_
  refine lqMd (z := w) (c0 := ⟨nI T, er, nI nd, tp, fd, ee, oo, tt, rr, sw, hh, tx⟩) (m0 := ⟨v, nI T, er, th, nW g, nW a, nW u, nW sl, nW kp, nI mm, nW P0, nW L0, sn, pv, nW r0, gn, vd, nI nd, x1, x2, x3, x4, x5, x6, x7, txt, txd⟩) (m1 := ⟨v, nI T, er, nI 0, nW g, nW a, nW u, nW sl, nW kp, nI mm, nW P0, nW L0, sn, pv, nW r0, gn, vd, nI nd, x1, x2, x3, x4, x5, x6, x7, txt, txd⟩) (o := o) (As := []) (rest := []) C (c_X8_bitsPerSymbol fu l dC dI Z.kI Z.kB Z.kZ Z.ma v (nI T) er th (nW g) (nW a) (nW u) (nW sl) (nW kp) (nI mm) (nW P0) (nW L0) sn pv (nW r0) gn vd (nI nd) x1 x2 x3 x4 x5 x6 x7 txt txd H.size _ e2) gL_law_X8_bitsPerSymbol qX8_bitsPerSymbol rfl ⟨(Nat.le_of_ble_eq_true rfl), (Nat.le_of_ble_eq_true rfl)⟩ ⟨rfl, rfl⟩ hP hD hS hl.1 rfl rfl (Nat.le_of_ble_eq_true rfl) dL_law_2064 ⟨by omega, by omega⟩ (fun H locs hP hD hS => ?_)
  refine lv_dstore (lv' := [(7, .double w), (5, .double w), (0, .ref b), (1, .ref (Z.ca 0)), (2, .ref (Z.ma 0)), (3, .ref Z.q), (4, .int i)]) C.hx C.hb dL_law_2067 hl (by decide) rfl (fun ls hl => ?_)
  refine lv_dload C.hx C.hb dL_law_2069 (lv_at hl 1 rfl) ?_
  refine lv_dload C.hx C.hb dL_law_2071 (lv_at hl 0 rfl) ?_
  refine lv_dcmp C.hx C.hb dL_law_2073 ?_
  by_cases hz : Op.cmpValue (FP.dcmp w w) .l = 0
  · refine lv_if_eq (tgt := 2095) C.hx C.hb dL_law_2074 (by decide) (fun _ => ?_) (fun h9 => absurd hz h9)
    refine lv_goto (tgt := 2318) C.hx C.hb dL_law_2095 (by decide) ?_
    refine W.widen (k := cells + 8) (n := slots + 48) (by omega) (by omega) ?_
    exact KK ⟨nI T, er, nI nd, tp, fd, ee, oo, tt, rr, sw, hh, tx⟩ ⟨v, nI T, er, nI 0, nW g, nW a, nW u, nW sl, nW kp, nI mm, nW P0, nW L0, sn, pv, nW r0, gn, vd, nI nd, x1, x2, x3, x4, x5, x6, x7, txt, txd⟩ o H locs ls ⟨T, er, nd, tp, fd, ee, oo, tt, rr, sw, hh, tx, v, nI 0, g, a, u, sl, kp, mm, P0, L0, sn, pv, r0, gn, vd, x1, x2, x3, x4, x5, x6, x7, txt, txd, bb, rfl, rfl, hTP, hDD, hST, hOF⟩ hP hD hS (lv_sub hl [2, 3, 4, 5, 6] rfl)
  · refine lv_if_eq (tgt := 2095) C.hx C.hb dL_law_2074 (by decide) (fun h9 => absurd h9 hz) (fun _ => ?_)
    refine lv_dload C.hx C.hb dL_law_2077 (lv_at hl 1 rfl) ?_
    refine lv_dload C.hx C.hb dL_law_2079 (lv_at hl 1 rfl) ?_
    refine lv_dcmp C.hx C.hb dL_law_2081 ?_
    refine lv_if_eq (tgt := 2093) C.hx C.hb dL_law_2082 (by decide) (fun h9 => absurd h9 hz) (fun _ => ?_)
    refine lv_dload C.hx C.hb dL_law_2085 (lv_at hl 0 rfl) ?_
    refine lv_dload C.hx C.hb dL_law_2087 (lv_at hl 0 rfl) ?_
    refine lv_dcmp C.hx C.hb dL_law_2089 ?_
    refine lv_if_ne (tgt := 2095) C.hx C.hb dL_law_2090 (by decide) (fun _ => ?_) (fun h9 => absurd h9 hz)
    refine lv_goto (tgt := 2318) C.hx C.hb dL_law_2095 (by decide) ?_
    refine W.widen (k := cells + 8) (n := slots + 48) (by omega) (by omega) ?_
    exact KK ⟨nI T, er, nI nd, tp, fd, ee, oo, tt, rr, sw, hh, tx⟩ ⟨v, nI T, er, nI 0, nW g, nW a, nW u, nW sl, nW kp, nI mm, nW P0, nW L0, sn, pv, nW r0, gn, vd, nI nd, x1, x2, x3, x4, x5, x6, x7, txt, txd⟩ o H locs ls ⟨T, er, nd, tp, fd, ee, oo, tt, rr, sw, hh, tx, v, nI 0, g, a, u, sl, kp, mm, P0, L0, sn, pv, r0, gn, vd, x1, x2, x3, x4, x5, x6, x7, txt, txd, bb, rfl, rfl, hTP, hDD, hST, hOF⟩ hP hD hS (lv_sub hl [2, 3, 4, 5, 6] rfl)
set_option maxHeartbeats 4000000 in
set_option maxRecDepth 100000 in
theorem lc_52 (C : LC p l s m args c A0 K dC dI Z b L xs) (hf : 20000 ≤ fu) (hR : REL c0 m0) (hP : va_P (dC, dI) vwCl (LW Z c0 m0 o) H) (hD : va_D A0 (LW Z c0 m0 o)) (hS : va_S A0 s.heap H locs) (hl : lv_has ls 9 [(0, .ref b), (1, .ref (Z.ca 0)), (2, .ref (Z.ma 0)), (3, .ref Z.q), (4, .int i)])  (hcl : cells + 8 ≤ room_1.cells ∧ slots + 48 ≤ room_1.slots) (KK : LKK p l e s m args below meth c (cells + 8) (slots + 48) Q A0 dC dI Z b i) : W p l e room_1 s m args below meth c H locs cells slots Q (F0 m 2098 ls []) := by
  obtain ⟨hc1, hc2⟩ := hcl
  obtain ⟨T, er, nd, tp, fd, ee, oo, tt, rr, sw, hh, tx, v, th, g, a, u, sl, kp, mm, P0, L0, sn, pv, r0, gn, vd, x1, x2, x3, x4, x5, x6, x7, txt, txd, bb, rfl, rfl, hTP, hDD, hST, hOF⟩ := hR
  have hRE := hST.1
  have hG := hST.2.1
  obtain ⟨w, e1, e2, hN⟩ := t_fillShareN fu hf th hRE hG
  refine lv_aload_n C.hx C.hb dL_law_2098 rfl (lv_at hl 1 rfl) ?_
  refine lqRf (z := w) (c0 := ⟨nI T, er, nI nd, tp, fd, ee, oo, tt, rr, sw, hh, tx⟩) (m0 := ⟨v, nI T, er, th, nW g, nW a, nW u, nW sl, nW kp, nI mm, nW P0, nW L0, sn, pv, nW r0, gn, vd, nI nd, x1, x2, x3, x4, x5, x6, x7, txt, txd⟩) (o := o) (As := []) (rest := []) C (c_X7_fillShare l dC dI Z.kI Z.kE Z.ca Z.a Z.b Z.oa Z.ob Z.ra Z.sa Z.ha Z.ux Z.uy tx (nI T) er (nI nd) tp fd ee oo tt rr sw hh _ e1) gL_law_X7_fillShare qX7_fillShare rfl ⟨(Nat.le_of_ble_eq_true rfl), (Nat.le_of_ble_eq_true rfl)⟩ ⟨rfl, rfl⟩ hP hD hS hl.1 rfl rfl (Nat.le_of_ble_eq_true rfl) dL_law_2099 ⟨by omega, by omega⟩ (fun H locs hP hD hS => ?_)
  refine lv_f2d C.hx C.hb dL_law_2102 hN ?_
  refine lv_dstore (lv' := [(5, .double (FP.f2d w)), (0, .ref b), (1, .ref (Z.ca 0)), (2, .ref (Z.ma 0)), (3, .ref Z.q), (4, .int i)]) C.hx C.hb dL_law_2103 hl (by decide) rfl (fun ls hl => ?_)
  refine lv_aload_n C.hx C.hb dL_law_2105 rfl (lv_at hl 3 rfl) ?_
  refine lqMf (z := w) (c0 := ⟨nI T, er, nI nd, tp, fd, ee, oo, tt, rr, sw, hh, tx⟩) (m0 := ⟨v, nI T, er, th, nW g, nW a, nW u, nW sl, nW kp, nI mm, nW P0, nW L0, sn, pv, nW r0, gn, vd, nI nd, x1, x2, x3, x4, x5, x6, x7, txt, txd⟩) (m1 := ⟨v, nI T, er, nI 0, nW g, nW a, nW u, nW sl, nW kp, nI mm, nW P0, nW L0, sn, pv, nW r0, gn, vd, nI nd, x1, x2, x3, x4, x5, x6, x7, txt, txd⟩) (o := o) (As := []) (rest := []) C (c_X8_fillShare l dC dI Z.kI Z.kB Z.kZ Z.ma v (nI T) er th (nW g) (nW a) (nW u) (nW sl) (nW kp) (nI mm) (nW P0) (nW L0) sn pv (nW r0) gn vd (nI nd) x1 x2 x3 x4 x5 x6 x7 txt txd H.size _ e2) gL_law_X8_fillShare qX8_fillShare rfl ⟨(Nat.le_of_ble_eq_true rfl), (Nat.le_of_ble_eq_true rfl)⟩ ⟨rfl, rfl⟩ hP hD hS hl.1 rfl rfl (Nat.le_of_ble_eq_true rfl) dL_law_2106 ⟨by omega, by omega⟩ (fun H locs hP hD hS => ?_)
  refine lv_f2d C.hx C.hb dL_law_2109 hN ?_
  refine lv_dstore (lv' := [(7, .double (FP.f2d w)), (5, .double (FP.f2d w)), (0, .ref b), (1, .ref (Z.ca 0)), (2, .ref (Z.ma 0)), (3, .ref Z.q), (4, .int i)]) C.hx C.hb dL_law_2110 hl (by decide) rfl (fun ls hl => ?_)
  refine lv_dload C.hx C.hb dL_law_2112 (lv_at hl 1 rfl) ?_
  refine lv_dload C.hx C.hb dL_law_2114 (lv_at hl 0 rfl) ?_
  refine lv_dcmp C.hx C.hb dL_law_2116 ?_
  by_cases hz : Op.cmpValue (FP.dcmp (FP.f2d w) (FP.f2d w)) .l = 0
  · refine lv_if_eq (tgt := 2138) C.hx C.hb dL_law_2117 (by decide) (fun _ => ?_) (fun h9 => absurd hz h9)
    refine lv_goto (tgt := 2318) C.hx C.hb dL_law_2138 (by decide) ?_
    refine W.widen (k := cells + 8) (n := slots + 48) (by omega) (by omega) ?_
    exact KK ⟨nI T, er, nI nd, tp, fd, ee, oo, tt, rr, sw, hh, tx⟩ ⟨v, nI T, er, nI 0, nW g, nW a, nW u, nW sl, nW kp, nI mm, nW P0, nW L0, sn, pv, nW r0, gn, vd, nI nd, x1, x2, x3, x4, x5, x6, x7, txt, txd⟩ o H locs ls ⟨T, er, nd, tp, fd, ee, oo, tt, rr, sw, hh, tx, v, nI 0, g, a, u, sl, kp, mm, P0, L0, sn, pv, r0, gn, vd, x1, x2, x3, x4, x5, x6, x7, txt, txd, bb, rfl, rfl, hTP, hDD, hST, hOF⟩ hP hD hS (lv_sub hl [2, 3, 4, 5, 6] rfl)
  · refine lv_if_eq (tgt := 2138) C.hx C.hb dL_law_2117 (by decide) (fun h9 => absurd h9 hz) (fun _ => ?_)
    refine lv_dload C.hx C.hb dL_law_2120 (lv_at hl 1 rfl) ?_
    refine lv_dload C.hx C.hb dL_law_2122 (lv_at hl 1 rfl) ?_
    refine lv_dcmp C.hx C.hb dL_law_2124 ?_
    refine lv_if_eq (tgt := 2136) C.hx C.hb dL_law_2125 (by decide) (fun h9 => absurd h9 hz) (fun _ => ?_)
    refine lv_dload C.hx C.hb dL_law_2128 (lv_at hl 0 rfl) ?_
    refine lv_dload C.hx C.hb dL_law_2130 (lv_at hl 0 rfl) ?_
    refine lv_dcmp C.hx C.hb dL_law_2132 ?_
    refine lv_if_ne (tgt := 2138) C.hx C.hb dL_law_2133 (by decide) (fun _ => ?_) (fun h9 => absurd h9 hz)
    refine lv_goto (tgt := 2318) C.hx C.hb dL_law_2138 (by decide) ?_
    refine W.widen (k := cells + 8) (n := slots + 48) (by omega) (by omega) ?_
    exact KK ⟨nI T, er, nI nd, tp, fd, ee, oo, tt, rr, sw, hh, tx⟩ ⟨v, nI T, er, nI 0, nW g, nW a, nW u, nW sl, nW kp, nI mm, nW P0, nW L0, sn, pv, nW r0, gn, vd, nI nd, x1, x2, x3, x4, x5, x6, x7, txt, txd⟩ o H locs ls ⟨T, er, nd, tp, fd, ee, oo, tt, rr, sw, hh, tx, v, nI 0, g, a, u, sl, kp, mm, P0, L0, sn, pv, r0, gn, vd, x1, x2, x3, x4, x5, x6, x7, txt, txd, bb, rfl, rfl, hTP, hDD, hST, hOF⟩ hP hD hS (lv_sub hl [2, 3, 4, 5, 6] rfl)
set_option maxHeartbeats 4000000 in
set_option maxRecDepth 100000 in
theorem lc_53 (C : LC p l s m args c A0 K dC dI Z b L xs) (hf : 20000 ≤ fu) (hR : REL c0 m0) (hP : va_P (dC, dI) vwCl (LW Z c0 m0 o) H) (hD : va_D A0 (LW Z c0 m0 o)) (hS : va_S A0 s.heap H locs) (hl : lv_has ls 9 [(0, .ref b), (1, .ref (Z.ca 0)), (2, .ref (Z.ma 0)), (3, .ref Z.q), (4, .int i)])  (hcl : cells + 8 ≤ room_1.cells ∧ slots + 48 ≤ room_1.slots) (KK : LKK p l e s m args below meth c (cells + 8) (slots + 48) Q A0 dC dI Z b i) : W p l e room_1 s m args below meth c H locs cells slots Q (F0 m 2141 ls []) := by
  obtain ⟨hc1, hc2⟩ := hcl
  obtain ⟨T, er, nd, tp, fd, ee, oo, tt, rr, sw, hh, tx, v, th, g, a, u, sl, kp, mm, P0, L0, sn, pv, r0, gn, vd, x1, x2, x3, x4, x5, x6, x7, txt, txd, bb, rfl, rfl, hTP, hDD, hST, hOF⟩ := hR
  have hRE := hST.1
  have hG := hST.2.1
  obtain ⟨e1, e2⟩ := t_decodedCount th nd
  refine lv_aload_n C.hx C.hb dL_law_2141 rfl (lv_at hl 1 rfl) ?_
  refine lqRi (z := nI nd) (c0 := ⟨nI T, er, nI nd, tp, fd, ee, oo, tt, rr, sw, hh, tx⟩) (m0 := ⟨v, nI T, er, th, nW g, nW a, nW u, nW sl, nW kp, nI mm, nW P0, nW L0, sn, pv, nW r0, gn, vd, nI nd, x1, x2, x3, x4, x5, x6, x7, txt, txd⟩) (o := o) (As := []) (rest := []) C (c_X7_decodedCount l dC dI Z.kI Z.kE Z.ca Z.a Z.b Z.oa Z.ob Z.ra Z.sa Z.ha Z.ux Z.uy tx (nI T) er (nI nd) tp fd ee oo tt rr sw hh _ e1) gL_law_X7_decodedCount qX7_decodedCount rfl ⟨(Nat.le_of_ble_eq_true rfl), (Nat.le_of_ble_eq_true rfl)⟩ ⟨rfl, rfl⟩ hP hD hS hl.1 rfl rfl (Nat.le_of_ble_eq_true rfl) dL_law_2142 ⟨by omega, by omega⟩ (fun H locs hP hD hS => ?_)
  refine lv_aload_n C.hx C.hb dL_law_2145 rfl (lv_at hl 2 rfl) ?_
  refine lqMi (z := nI nd) (c0 := ⟨nI T, er, nI nd, tp, fd, ee, oo, tt, rr, sw, hh, tx⟩) (m0 := ⟨v, nI T, er, th, nW g, nW a, nW u, nW sl, nW kp, nI mm, nW P0, nW L0, sn, pv, nW r0, gn, vd, nI nd, x1, x2, x3, x4, x5, x6, x7, txt, txd⟩) (m1 := ⟨v, nI T, er, nI 0, nW g, nW a, nW u, nW sl, nW kp, nI mm, nW P0, nW L0, sn, pv, nW r0, gn, vd, nI nd, x1, x2, x3, x4, x5, x6, x7, txt, txd⟩) (o := o) (As := []) (rest := [.int (nI nd)]) C (c_X8_decodedCount l dC dI Z.kI Z.kB Z.kZ Z.ma v (nI T) er th (nW g) (nW a) (nW u) (nW sl) (nW kp) (nI mm) (nW P0) (nW L0) sn pv (nW r0) gn vd (nI nd) x1 x2 x3 x4 x5 x6 x7 txt txd H.size _ e2) gL_law_X8_decodedCount qX8_decodedCount rfl ⟨(Nat.le_of_ble_eq_true rfl), (Nat.le_of_ble_eq_true rfl)⟩ ⟨rfl, rfl⟩ hP hD hS hl.1 rfl rfl (Nat.le_of_ble_eq_true rfl) dL_law_2146 ⟨by omega, by omega⟩ (fun H locs hP hD hS => ?_)
  refine lv_icmp_eq (tgt := 2318) C.hx C.hb dL_law_2149 (by decide) (fun _ => ?_) (fun h9 => absurd (by first | rfl | decide) h9)
  refine W.widen (k := cells + 8) (n := slots + 48) (by omega) (by omega) ?_
  exact KK ⟨nI T, er, nI nd, tp, fd, ee, oo, tt, rr, sw, hh, tx⟩ ⟨v, nI T, er, nI 0, nW g, nW a, nW u, nW sl, nW kp, nI mm, nW P0, nW L0, sn, pv, nW r0, gn, vd, nI nd, x1, x2, x3, x4, x5, x6, x7, txt, txd⟩ o H locs ls ⟨T, er, nd, tp, fd, ee, oo, tt, rr, sw, hh, tx, v, nI 0, g, a, u, sl, kp, mm, P0, L0, sn, pv, r0, gn, vd, x1, x2, x3, x4, x5, x6, x7, txt, txd, bb, rfl, rfl, hTP, hDD, hST, hOF⟩ hP hD hS (lv_sub hl [0, 1, 2, 3, 4] rfl)
set_option maxHeartbeats 4000000 in
set_option maxRecDepth 100000 in
theorem lc_54 (C : LC p l s m args c A0 K dC dI Z b L xs) (hf : 20000 ≤ fu) (hR : REL c0 m0) (hP : va_P (dC, dI) vwCl (LW Z c0 m0 o) H) (hD : va_D A0 (LW Z c0 m0 o)) (hS : va_S A0 s.heap H locs) (hl : lv_has ls 9 [(0, .ref b), (1, .ref (Z.ca 0)), (2, .ref (Z.ma 0)), (3, .ref Z.q), (4, .int i)]) (hi1 : vp_in (i + 1) L) (hcl : cells + 8 ≤ room_1.cells ∧ slots + 48 ≤ room_1.slots) (KK : LKK p l e s m args below meth c (cells + 8) (slots + 48) Q A0 dC dI Z b i) : W p l e room_1 s m args below meth c H locs cells slots Q (F0 m 2154 ls []) := by
  obtain ⟨hc1, hc2⟩ := hcl
  obtain ⟨T, er, nd, tp, fd, ee, oo, tt, rr, sw, hh, tx, v, th, g, a, u, sl, kp, mm, P0, L0, sn, pv, r0, gn, vd, x1, x2, x3, x4, x5, x6, x7, txt, txd, bb, rfl, rfl, hTP, hDD, hST, hOF⟩ := hR
  have hRE := hST.1
  have hG := hST.2.1
  rcases t_decodedSymbol th hDD (xs (i + 1).toNatClampNeg) with ⟨w, e1, e2⟩ | ⟨e1, e2⟩
  · refine lv_aload_n C.hx C.hb dL_law_2154 rfl (lv_at hl 1 rfl) ?_
    refine lv_aload_n C.hx C.hb dL_law_2155 rfl (lv_at hl 0 rfl) ?_
    refine lv_iload C.hx C.hb dL_law_2156 (lv_at hl 4 rfl) ?_
    refine lv_iconst (v := 1) C.hx C.hb dL_law_2158 (by decide) ?_
    refine lv_iadd C.hx C.hb dL_law_2159 ?_
    refine lq_x C hS hi1 dL_law_2160 ?_
    refine lv_aload_n C.hx C.hb dL_law_2161 rfl (lv_at hl 3 rfl) ?_
    refine lqL (r := 0) (c0 := ⟨nI T, er, nI nd, tp, fd, ee, oo, tt, rr, sw, hh, tx⟩) (c1 := ⟨nI T, er, nI nd, tp, fd, ee, oo, tt, rr, sw, hh, tx⟩) (m0 := ⟨v, nI T, er, th, nW g, nW a, nW u, nW sl, nW kp, nI mm, nW P0, nW L0, sn, pv, nW r0, gn, vd, nI nd, x1, x2, x3, x4, x5, x6, x7, txt, txd⟩) (o := o) (o1 := (vp_updL o 0 w.toInt64)) (As := [.ref (Z.ca 0), .int (xs (i + 1).toNatClampNeg), .ref Z.q]) (rest := []) C (c_L_decodedSymbol l C.hl0 dC dI K Z.kI Z.kE Z.kL Z.ca Z.a Z.b Z.oa Z.ob Z.ra Z.sa Z.ha Z.ux Z.uy tx (nI T) er (nI nd) tp fd ee oo tt rr sw hh (xs (i + 1).toNatClampNeg) Z.q o H.size _ e1 0 (vp_updL o 0 w.toInt64) (Or.inl ⟨w, rfl, rfl, rfl⟩)) gL_law_L_decodedSymbol qL_decodedSymbol rfl ⟨(Nat.le_of_ble_eq_true rfl), (Nat.le_of_ble_eq_true rfl)⟩ ⟨rfl, rfl⟩ hP hD hS hl.1 rfl rfl (Nat.le_of_ble_eq_true rfl) dL_law_2162 ⟨by omega, by omega⟩ (fun H locs hP hD hS => ?_)
    refine W.widen (k := cells + 8) (n := slots + 48) (by omega) (by omega) ?_
    refine lv_istore (lv' := [(5, .int 0), (0, .ref b), (1, .ref (Z.ca 0)), (2, .ref (Z.ma 0)), (3, .ref Z.q), (4, .int i)]) C.hx C.hb dL_law_2165 hl (by decide) rfl (fun ls hl => ?_)
    refine lv_aload_n C.hx C.hb dL_law_2167 rfl (lv_at hl 3 rfl) ?_
    refine lv_aload_n C.hx C.hb dL_law_2168 rfl (lv_at hl 1 rfl) ?_
    refine lv_iload C.hx C.hb dL_law_2169 (lv_at hl 5 rfl) ?_
    refine lv_iconst (v := 1) C.hx C.hb dL_law_2171 (by decide) ?_
    refine lv_iadd C.hx C.hb dL_law_2172 ?_
    refine lq_x C hS hi1 dL_law_2173 ?_
    refine lqMi (z := w) (c0 := ⟨nI T, er, nI nd, tp, fd, ee, oo, tt, rr, sw, hh, tx⟩) (m0 := ⟨v, nI T, er, th, nW g, nW a, nW u, nW sl, nW kp, nI mm, nW P0, nW L0, sn, pv, nW r0, gn, vd, nI nd, x1, x2, x3, x4, x5, x6, x7, txt, txd⟩) (m1 := ⟨v, nI T, er, nI 0, nW g, nW a, nW u, nW sl, nW kp, nI mm, nW P0, nW L0, sn, pv, nW r0, gn, vd, nI nd, x1, x2, x3, x4, x5, x6, x7, txt, txd⟩) (o := (vp_updL o 0 w.toInt64)) (As := [.int (xs (i + 1).toNatClampNeg)]) (rest := []) C (c_X8_decodedSymbol l dC dI Z.kI Z.kB Z.kZ Z.ma v (nI T) er th (nW g) (nW a) (nW u) (nW sl) (nW kp) (nI mm) (nW P0) (nW L0) sn pv (nW r0) gn vd (nI nd) x1 x2 x3 x4 x5 x6 x7 txt txd (xs (i + 1).toNatClampNeg) H.size _ e2) gL_law_X8_decodedSymbol qX8_decodedSymbol rfl ⟨(Nat.le_of_ble_eq_true rfl), (Nat.le_of_ble_eq_true rfl)⟩ ⟨rfl, rfl⟩ hP hD hS hl.1 rfl rfl (Nat.le_of_ble_eq_true rfl) dL_law_2174 ⟨by omega, by omega⟩ (fun H locs hP hD hS => ?_)
    refine lv_istore (lv' := [(6, .int w), (5, .int 0), (0, .ref b), (1, .ref (Z.ca 0)), (2, .ref (Z.ma 0)), (3, .ref Z.q), (4, .int i)]) C.hx C.hb dL_law_2177 hl (by decide) rfl (fun ls hl => ?_)
    refine lv_aload_n C.hx C.hb dL_law_2179 rfl (lv_at hl 4 rfl) ?_
    refine lqMo (z := nI 0) (c0 := ⟨nI T, er, nI nd, tp, fd, ee, oo, tt, rr, sw, hh, tx⟩) (m0 := ⟨v, nI T, er, nI 0, nW g, nW a, nW u, nW sl, nW kp, nI mm, nW P0, nW L0, sn, pv, nW r0, gn, vd, nI nd, x1, x2, x3, x4, x5, x6, x7, txt, txd⟩) (o := (vp_updL o 0 w.toInt64)) (As := []) (rest := []) C (c_X8_thrown l dC dI Z.kI Z.kB Z.kZ Z.ma v (nI T) er (nI 0) (nW g) (nW a) (nW u) (nW sl) (nW kp) (nI mm) (nW P0) (nW L0) sn pv (nW r0) gn vd (nI nd) x1 x2 x3 x4 x5 x6 x7 txt txd (nI 0) rfl) gL_law_X8_thrown qX8_thrown rfl ⟨(Nat.le_of_ble_eq_true rfl), (Nat.le_of_ble_eq_true rfl)⟩ ⟨rfl, rfl⟩ hP hD hS hl.1 rfl rfl (Nat.le_of_ble_eq_true rfl) dL_law_2180 ⟨by omega, by omega⟩ (fun H locs hP hD hS => ?_)
    refine lv_iload C.hx C.hb dL_law_2183 (lv_at hl 1 rfl) ?_
    refine lv_icmp_eq (tgt := 2190) C.hx C.hb dL_law_2185 (by decide) (fun _ => ?_) (fun h9 => absurd (by first | rfl | decide) h9)
    refine lv_iload C.hx C.hb dL_law_2190 (lv_at hl 1 rfl) ?_
    refine lv_if_ne (tgt := 2207) C.hx C.hb dL_law_2192 (by decide) (fun h9 => absurd rfl h9) (fun _ => ?_)
    refine lv_aload_n C.hx C.hb dL_law_2195 rfl (lv_at hl 5 rfl) ?_
    refine lv_iconst (v := 0) C.hx C.hb dL_law_2196 (by decide) ?_
    refine lq_o C hP dL_law_2197 ?_
    refine lv_iload C.hx C.hb dL_law_2198 (lv_at hl 0 rfl) ?_
    refine lv_i2l (v := w.toInt64) C.hx C.hb dL_law_2200 rfl ?_
    refine W.lcmp C.hx C.hb dL_law_2201 ?_
    refine lv_if_eq (tgt := 2207) C.hx C.hb dL_law_2202 (by decide) (fun _ => ?_) (fun h9 => absurd (cmp_self _) h9)
    refine lv_goto (tgt := 2318) C.hx C.hb dL_law_2207 (by decide) ?_
    exact KK ⟨nI T, er, nI nd, tp, fd, ee, oo, tt, rr, sw, hh, tx⟩ ⟨v, nI T, er, nI 0, nW g, nW a, nW u, nW sl, nW kp, nI mm, nW P0, nW L0, sn, pv, nW r0, gn, vd, nI nd, x1, x2, x3, x4, x5, x6, x7, txt, txd⟩ (vp_updL o 0 w.toInt64) H locs ls ⟨T, er, nd, tp, fd, ee, oo, tt, rr, sw, hh, tx, v, nI 0, g, a, u, sl, kp, mm, P0, L0, sn, pv, r0, gn, vd, x1, x2, x3, x4, x5, x6, x7, txt, txd, bb, rfl, rfl, hTP, hDD, hST, hOF⟩ hP hD hS (lv_sub hl [2, 3, 4, 5, 6] rfl)
  · refine lv_aload_n C.hx C.hb dL_law_2154 rfl (lv_at hl 1 rfl) ?_
    refine lv_aload_n C.hx C.hb dL_law_2155 rfl (lv_at hl 0 rfl) ?_
    refine lv_iload C.hx C.hb dL_law_2156 (lv_at hl 4 rfl) ?_
    refine lv_iconst (v := 1) C.hx C.hb dL_law_2158 (by decide) ?_
    refine lv_iadd C.hx C.hb dL_law_2159 ?_
    refine lq_x C hS hi1 dL_law_2160 ?_
    refine lv_aload_n C.hx C.hb dL_law_2161 rfl (lv_at hl 3 rfl) ?_
    refine lqL (r := 1) (c0 := ⟨nI T, er, nI nd, tp, fd, ee, oo, tt, rr, sw, hh, tx⟩) (c1 := ⟨nI T, er, nI nd, tp, fd, ee, oo, tt, rr, sw, hh, tx⟩) (m0 := ⟨v, nI T, er, th, nW g, nW a, nW u, nW sl, nW kp, nI mm, nW P0, nW L0, sn, pv, nW r0, gn, vd, nI nd, x1, x2, x3, x4, x5, x6, x7, txt, txd⟩) (o := o) (o1 := o) (As := [.ref (Z.ca 0), .int (xs (i + 1).toNatClampNeg), .ref Z.q]) (rest := []) C (c_L_decodedSymbol l C.hl0 dC dI K Z.kI Z.kE Z.kL Z.ca Z.a Z.b Z.oa Z.ob Z.ra Z.sa Z.ha Z.ux Z.uy tx (nI T) er (nI nd) tp fd ee oo tt rr sw hh (xs (i + 1).toNatClampNeg) Z.q o H.size _ e1 1 o (Or.inr ⟨rfl, rfl, rfl⟩)) gL_law_L_decodedSymbol qL_decodedSymbol rfl ⟨(Nat.le_of_ble_eq_true rfl), (Nat.le_of_ble_eq_true rfl)⟩ ⟨rfl, rfl⟩ hP hD hS hl.1 rfl rfl (Nat.le_of_ble_eq_true rfl) dL_law_2162 ⟨by omega, by omega⟩ (fun H locs hP hD hS => ?_)
    refine W.widen (k := cells + 8) (n := slots + 48) (by omega) (by omega) ?_
    refine lv_istore (lv' := [(5, .int 1), (0, .ref b), (1, .ref (Z.ca 0)), (2, .ref (Z.ma 0)), (3, .ref Z.q), (4, .int i)]) C.hx C.hb dL_law_2165 hl (by decide) rfl (fun ls hl => ?_)
    refine lv_aload_n C.hx C.hb dL_law_2167 rfl (lv_at hl 3 rfl) ?_
    refine lv_aload_n C.hx C.hb dL_law_2168 rfl (lv_at hl 1 rfl) ?_
    refine lv_iload C.hx C.hb dL_law_2169 (lv_at hl 5 rfl) ?_
    refine lv_iconst (v := 1) C.hx C.hb dL_law_2171 (by decide) ?_
    refine lv_iadd C.hx C.hb dL_law_2172 ?_
    refine lq_x C hS hi1 dL_law_2173 ?_
    refine lqMi (z := nI 0) (c0 := ⟨nI T, er, nI nd, tp, fd, ee, oo, tt, rr, sw, hh, tx⟩) (m0 := ⟨v, nI T, er, th, nW g, nW a, nW u, nW sl, nW kp, nI mm, nW P0, nW L0, sn, pv, nW r0, gn, vd, nI nd, x1, x2, x3, x4, x5, x6, x7, txt, txd⟩) (m1 := ⟨v, nI T, er, nI 1, nW g, nW a, nW u, nW sl, nW kp, nI mm, nW P0, nW L0, sn, pv, nW r0, gn, vd, nI nd, x1, x2, x3, x4, x5, x6, x7, txt, txd⟩) (o := o) (As := [.int (xs (i + 1).toNatClampNeg)]) (rest := []) C (c_X8_decodedSymbol l dC dI Z.kI Z.kB Z.kZ Z.ma v (nI T) er th (nW g) (nW a) (nW u) (nW sl) (nW kp) (nI mm) (nW P0) (nW L0) sn pv (nW r0) gn vd (nI nd) x1 x2 x3 x4 x5 x6 x7 txt txd (xs (i + 1).toNatClampNeg) H.size _ e2) gL_law_X8_decodedSymbol qX8_decodedSymbol rfl ⟨(Nat.le_of_ble_eq_true rfl), (Nat.le_of_ble_eq_true rfl)⟩ ⟨rfl, rfl⟩ hP hD hS hl.1 rfl rfl (Nat.le_of_ble_eq_true rfl) dL_law_2174 ⟨by omega, by omega⟩ (fun H locs hP hD hS => ?_)
    refine lv_istore (lv' := [(6, .int (nI 0)), (5, .int 1), (0, .ref b), (1, .ref (Z.ca 0)), (2, .ref (Z.ma 0)), (3, .ref Z.q), (4, .int i)]) C.hx C.hb dL_law_2177 hl (by decide) rfl (fun ls hl => ?_)
    refine lv_aload_n C.hx C.hb dL_law_2179 rfl (lv_at hl 4 rfl) ?_
    refine lqMo (z := nI 1) (c0 := ⟨nI T, er, nI nd, tp, fd, ee, oo, tt, rr, sw, hh, tx⟩) (m0 := ⟨v, nI T, er, nI 1, nW g, nW a, nW u, nW sl, nW kp, nI mm, nW P0, nW L0, sn, pv, nW r0, gn, vd, nI nd, x1, x2, x3, x4, x5, x6, x7, txt, txd⟩) (o := o) (As := []) (rest := []) C (c_X8_thrown l dC dI Z.kI Z.kB Z.kZ Z.ma v (nI T) er (nI 1) (nW g) (nW a) (nW u) (nW sl) (nW kp) (nI mm) (nW P0) (nW L0) sn pv (nW r0) gn vd (nI nd) x1 x2 x3 x4 x5 x6 x7 txt txd (nI 1) rfl) gL_law_X8_thrown qX8_thrown rfl ⟨(Nat.le_of_ble_eq_true rfl), (Nat.le_of_ble_eq_true rfl)⟩ ⟨rfl, rfl⟩ hP hD hS hl.1 rfl rfl (Nat.le_of_ble_eq_true rfl) dL_law_2180 ⟨by omega, by omega⟩ (fun H locs hP hD hS => ?_)
    refine lv_iload C.hx C.hb dL_law_2183 (lv_at hl 1 rfl) ?_
    refine lv_icmp_eq (tgt := 2190) C.hx C.hb dL_law_2185 (by decide) (fun _ => ?_) (fun h9 => absurd (by first | rfl | decide) h9)
    refine lv_iload C.hx C.hb dL_law_2190 (lv_at hl 1 rfl) ?_
    refine lv_if_ne (tgt := 2207) C.hx C.hb dL_law_2192 (by decide) (fun _ => ?_) (fun h9 => absurd h9 (by decide))
    refine lv_goto (tgt := 2318) C.hx C.hb dL_law_2207 (by decide) ?_
    exact KK ⟨nI T, er, nI nd, tp, fd, ee, oo, tt, rr, sw, hh, tx⟩ ⟨v, nI T, er, nI 1, nW g, nW a, nW u, nW sl, nW kp, nI mm, nW P0, nW L0, sn, pv, nW r0, gn, vd, nI nd, x1, x2, x3, x4, x5, x6, x7, txt, txd⟩ o H locs ls ⟨T, er, nd, tp, fd, ee, oo, tt, rr, sw, hh, tx, v, nI 1, g, a, u, sl, kp, mm, P0, L0, sn, pv, r0, gn, vd, x1, x2, x3, x4, x5, x6, x7, txt, txd, bb, rfl, rfl, hTP, hDD, hST, hOF⟩ hP hD hS (lv_sub hl [2, 3, 4, 5, 6] rfl)
set_option maxHeartbeats 4000000 in
set_option maxRecDepth 100000 in
theorem lc_55 (C : LC p l s m args c A0 K dC dI Z b L xs) (hf : 20000 ≤ fu) (hR : REL c0 m0) (hP : va_P (dC, dI) vwCl (LW Z c0 m0 o) H) (hD : va_D A0 (LW Z c0 m0 o)) (hS : va_S A0 s.heap H locs) (hl : lv_has ls 9 [(0, .ref b), (1, .ref (Z.ca 0)), (2, .ref (Z.ma 0)), (3, .ref Z.q), (4, .int i)])  (hcl : cells + 8 ≤ room_1.cells ∧ slots + 48 ≤ room_1.slots) (KK : LKK p l e s m args below meth c (cells + 8) (slots + 48) Q A0 dC dI Z b i) : W p l e room_1 s m args below meth c H locs cells slots Q (F0 m 2210 ls []) := by
  obtain ⟨hc1, hc2⟩ := hcl
  obtain ⟨T, er, nd, tp, fd, ee, oo, tt, rr, sw, hh, tx, v, th, g, a, u, sl, kp, mm, P0, L0, sn, pv, r0, gn, vd, x1, x2, x3, x4, x5, x6, x7, txt, txd, bb, rfl, rfl, hTP, hDD, hST, hOF⟩ := hR
  have hRE := hST.1
  have hG := hST.2.1
  obtain ⟨w, e1, e2⟩ := t_longestDecodedRun fu hf th hDD
  refine lv_aload_n C.hx C.hb dL_law_2210 rfl (lv_at hl 1 rfl) ?_
  refine lqRi (z := w) (c0 := ⟨nI T, er, nI nd, tp, fd, ee, oo, tt, rr, sw, hh, tx⟩) (m0 := ⟨v, nI T, er, th, nW g, nW a, nW u, nW sl, nW kp, nI mm, nW P0, nW L0, sn, pv, nW r0, gn, vd, nI nd, x1, x2, x3, x4, x5, x6, x7, txt, txd⟩) (o := o) (As := []) (rest := []) C (c_X7_longestDecodedRun fu l dC dI Z.kI Z.kE Z.ca Z.a Z.b Z.oa Z.ob Z.ra Z.sa Z.ha Z.ux Z.uy tx (nI T) er (nI nd) tp fd ee oo tt rr sw hh _ e1) gL_law_X7_longestDecodedRun qX7_longestDecodedRun rfl ⟨(Nat.le_of_ble_eq_true rfl), (Nat.le_of_ble_eq_true rfl)⟩ ⟨rfl, rfl⟩ hP hD hS hl.1 rfl rfl (Nat.le_of_ble_eq_true rfl) dL_law_2211 ⟨by omega, by omega⟩ (fun H locs hP hD hS => ?_)
  refine lv_aload_n C.hx C.hb dL_law_2214 rfl (lv_at hl 2 rfl) ?_
  refine lqMi (z := w) (c0 := ⟨nI T, er, nI nd, tp, fd, ee, oo, tt, rr, sw, hh, tx⟩) (m0 := ⟨v, nI T, er, th, nW g, nW a, nW u, nW sl, nW kp, nI mm, nW P0, nW L0, sn, pv, nW r0, gn, vd, nI nd, x1, x2, x3, x4, x5, x6, x7, txt, txd⟩) (m1 := ⟨v, nI T, er, nI 0, nW g, nW a, nW u, nW sl, nW kp, nI mm, nW P0, nW L0, sn, pv, nW r0, gn, vd, nI nd, x1, x2, x3, x4, x5, x6, x7, txt, txd⟩) (o := o) (As := []) (rest := [.int w]) C (c_X8_longestDecodedRun fu l dC dI Z.kI Z.kB Z.kZ Z.ma v (nI T) er th (nW g) (nW a) (nW u) (nW sl) (nW kp) (nI mm) (nW P0) (nW L0) sn pv (nW r0) gn vd (nI nd) x1 x2 x3 x4 x5 x6 x7 txt txd H.size _ e2) gL_law_X8_longestDecodedRun qX8_longestDecodedRun rfl ⟨(Nat.le_of_ble_eq_true rfl), (Nat.le_of_ble_eq_true rfl)⟩ ⟨rfl, rfl⟩ hP hD hS hl.1 rfl rfl (Nat.le_of_ble_eq_true rfl) dL_law_2215 ⟨by omega, by omega⟩ (fun H locs hP hD hS => ?_)
  refine lv_icmp_eq (tgt := 2318) C.hx C.hb dL_law_2218 (by decide) (fun _ => ?_) (fun h9 => absurd (by first | rfl | decide) h9)
  refine W.widen (k := cells + 8) (n := slots + 48) (by omega) (by omega) ?_
  exact KK ⟨nI T, er, nI nd, tp, fd, ee, oo, tt, rr, sw, hh, tx⟩ ⟨v, nI T, er, nI 0, nW g, nW a, nW u, nW sl, nW kp, nI mm, nW P0, nW L0, sn, pv, nW r0, gn, vd, nI nd, x1, x2, x3, x4, x5, x6, x7, txt, txd⟩ o H locs ls ⟨T, er, nd, tp, fd, ee, oo, tt, rr, sw, hh, tx, v, nI 0, g, a, u, sl, kp, mm, P0, L0, sn, pv, r0, gn, vd, x1, x2, x3, x4, x5, x6, x7, txt, txd, bb, rfl, rfl, hTP, hDD, hST, hOF⟩ hP hD hS (lv_sub hl [0, 1, 2, 3, 4] rfl)
set_option maxHeartbeats 4000000 in
set_option maxRecDepth 100000 in
theorem lc_56 (C : LC p l s m args c A0 K dC dI Z b L xs) (hf : 20000 ≤ fu) (hR : REL c0 m0) (hP : va_P (dC, dI) vwCl (LW Z c0 m0 o) H) (hD : va_D A0 (LW Z c0 m0 o)) (hS : va_S A0 s.heap H locs) (hl : lv_has ls 9 [(0, .ref b), (1, .ref (Z.ca 0)), (2, .ref (Z.ma 0)), (3, .ref Z.q), (4, .int i)])  (hcl : cells + 8 ≤ room_1.cells ∧ slots + 48 ≤ room_1.slots) (KK : LKK p l e s m args below meth c (cells + 8) (slots + 48) Q A0 dC dI Z b i) : W p l e room_1 s m args below meth c H locs cells slots Q (F0 m 2223 ls []) := by
  obtain ⟨hc1, hc2⟩ := hcl
  obtain ⟨T, er, nd, tp, fd, ee, oo, tt, rr, sw, hh, tx, v, th, g, a, u, sl, kp, mm, P0, L0, sn, pv, r0, gn, vd, x1, x2, x3, x4, x5, x6, x7, txt, txd, bb, rfl, rfl, hTP, hDD, hST, hOF⟩ := hR
  have hRE := hST.1
  have hG := hST.2.1
  obtain ⟨w, oo1, P1, L1, n1, p9, r1, k1, e1, e2, hOF⟩ := t_restoredCount fu hf th hRE hG hOF P0 L0 r0 sn pv gn
  refine lv_aload_n C.hx C.hb dL_law_2223 rfl (lv_at hl 1 rfl) ?_
  refine lqWi (z := w) (c0 := ⟨nI T, er, nI nd, tp, fd, ee, oo, tt, rr, sw, hh, tx⟩) (c1 := ⟨nI T, er, nI nd, tp, fd, ee, oo1, tt, rr, sw, hh, tx⟩) (m0 := ⟨v, nI T, er, th, nW g, nW a, nW u, nW sl, nW kp, nI mm, nW P0, nW L0, sn, pv, nW r0, gn, vd, nI nd, x1, x2, x3, x4, x5, x6, x7, txt, txd⟩) (o := o) (As := []) (rest := []) C (c_X7_restoredCount fu l dC dI Z.kI Z.kE Z.ca Z.a Z.b Z.oa Z.ob Z.ra Z.sa Z.ha Z.ux Z.uy tx (nI T) er (nI nd) tp fd ee oo tt rr sw hh H.size _ e1) gL_law_X7_restoredCount qX7_restoredCount rfl ⟨(Nat.le_of_ble_eq_true rfl), (Nat.le_of_ble_eq_true rfl)⟩ ⟨rfl, rfl⟩ hP hD hS hl.1 rfl rfl (Nat.le_of_ble_eq_true rfl) dL_law_2224 ⟨by omega, by omega⟩ (fun H locs hP hD hS => ?_)
  refine lv_aload_n C.hx C.hb dL_law_2227 rfl (lv_at hl 2 rfl) ?_
  refine lqMi (z := w) (c0 := ⟨nI T, er, nI nd, tp, fd, ee, oo1, tt, rr, sw, hh, tx⟩) (m0 := ⟨v, nI T, er, th, nW g, nW a, nW u, nW sl, nW kp, nI mm, nW P0, nW L0, sn, pv, nW r0, gn, vd, nI nd, x1, x2, x3, x4, x5, x6, x7, txt, txd⟩) (m1 := ⟨v, nI T, er, nI 0, nW g, nW a, nW u, nW sl, nW kp, nI mm, nW P1, nW L1, nI n1, nI p9, nW r1, nI k1, vd, nI nd, x1, x2, x3, x4, x5, x6, x7, txt, txd⟩) (o := o) (As := []) (rest := [.int w]) C (c_X8_restoredCount fu l dC dI Z.kI Z.kB Z.kZ Z.ma v (nI T) er th (nW g) (nW a) (nW u) (nW sl) (nW kp) (nI mm) (nW P0) (nW L0) sn pv (nW r0) gn vd (nI nd) x1 x2 x3 x4 x5 x6 x7 txt txd H.size _ e2) gL_law_X8_restoredCount qX8_restoredCount rfl ⟨(Nat.le_of_ble_eq_true rfl), (Nat.le_of_ble_eq_true rfl)⟩ ⟨rfl, rfl⟩ hP hD hS hl.1 rfl rfl (Nat.le_of_ble_eq_true rfl) dL_law_2228 ⟨by omega, by omega⟩ (fun H locs hP hD hS => ?_)
  refine lv_icmp_eq (tgt := 2318) C.hx C.hb dL_law_2231 (by decide) (fun _ => ?_) (fun h9 => absurd (by first | rfl | decide) h9)
  refine W.widen (k := cells + 8) (n := slots + 48) (by omega) (by omega) ?_
  exact KK ⟨nI T, er, nI nd, tp, fd, ee, oo1, tt, rr, sw, hh, tx⟩ ⟨v, nI T, er, nI 0, nW g, nW a, nW u, nW sl, nW kp, nI mm, nW P1, nW L1, nI n1, nI p9, nW r1, nI k1, vd, nI nd, x1, x2, x3, x4, x5, x6, x7, txt, txd⟩ o H locs ls ⟨T, er, nd, tp, fd, ee, oo1, tt, rr, sw, hh, tx, v, nI 0, g, a, u, sl, kp, mm, P1, L1, nI n1, nI p9, r1, nI k1, vd, x1, x2, x3, x4, x5, x6, x7, txt, txd, bb, rfl, rfl, hTP, hDD, hST, hOF⟩ hP hD hS (lv_sub hl [0, 1, 2, 3, 4] rfl)
set_option maxHeartbeats 4000000 in
set_option maxRecDepth 100000 in
theorem lc_57 (C : LC p l s m args c A0 K dC dI Z b L xs) (hf : 20000 ≤ fu) (hR : REL c0 m0) (hP : va_P (dC, dI) vwCl (LW Z c0 m0 o) H) (hD : va_D A0 (LW Z c0 m0 o)) (hS : va_S A0 s.heap H locs) (hl : lv_has ls 9 [(0, .ref b), (1, .ref (Z.ca 0)), (2, .ref (Z.ma 0)), (3, .ref Z.q), (4, .int i)])  (hcl : cells + 8 ≤ room_1.cells ∧ slots + 48 ≤ room_1.slots) (KK : LKK p l e s m args below meth c (cells + 8) (slots + 48) Q A0 dC dI Z b i) : W p l e room_1 s m args below meth c H locs cells slots Q (F0 m 2236 ls []) := by
  obtain ⟨hc1, hc2⟩ := hcl
  obtain ⟨T, er, nd, tp, fd, ee, oo, tt, rr, sw, hh, tx, v, th, g, a, u, sl, kp, mm, P0, L0, sn, pv, r0, gn, vd, x1, x2, x3, x4, x5, x6, x7, txt, txd, bb, rfl, rfl, hTP, hDD, hST, hOF⟩ := hR
  have hRE := hST.1
  have hG := hST.2.1
  obtain ⟨oo1, P1, L1, n1, p9, r1, k1, e1, e2, hOF⟩ := t_isRestored fu hf th hRE hG hOF P0 L0 r0 sn pv gn
  refine lv_aload_n C.hx C.hb dL_law_2236 rfl (lv_at hl 1 rfl) ?_
  refine lqWi (z := nI 1) (c0 := ⟨nI T, er, nI nd, tp, fd, ee, oo, tt, rr, sw, hh, tx⟩) (c1 := ⟨nI T, er, nI nd, tp, fd, ee, oo1, tt, rr, sw, hh, tx⟩) (m0 := ⟨v, nI T, er, th, nW g, nW a, nW u, nW sl, nW kp, nI mm, nW P0, nW L0, sn, pv, nW r0, gn, vd, nI nd, x1, x2, x3, x4, x5, x6, x7, txt, txd⟩) (o := o) (As := []) (rest := []) C (c_X7_isRestored fu l dC dI Z.kI Z.kE Z.ca Z.a Z.b Z.oa Z.ob Z.ra Z.sa Z.ha Z.ux Z.uy tx (nI T) er (nI nd) tp fd ee oo tt rr sw hh H.size _ e1) gL_law_X7_isRestored qX7_isRestored rfl ⟨(Nat.le_of_ble_eq_true rfl), (Nat.le_of_ble_eq_true rfl)⟩ ⟨rfl, rfl⟩ hP hD hS hl.1 rfl rfl (Nat.le_of_ble_eq_true rfl) dL_law_2237 ⟨by omega, by omega⟩ (fun H locs hP hD hS => ?_)
  refine lv_aload_n C.hx C.hb dL_law_2240 rfl (lv_at hl 2 rfl) ?_
  refine lqMi (z := nI 1) (c0 := ⟨nI T, er, nI nd, tp, fd, ee, oo1, tt, rr, sw, hh, tx⟩) (m0 := ⟨v, nI T, er, th, nW g, nW a, nW u, nW sl, nW kp, nI mm, nW P0, nW L0, sn, pv, nW r0, gn, vd, nI nd, x1, x2, x3, x4, x5, x6, x7, txt, txd⟩) (m1 := ⟨v, nI T, er, nI 0, nW g, nW a, nW u, nW sl, nW kp, nI mm, nW P1, nW L1, nI n1, nI p9, nW r1, nI k1, vd, nI nd, x1, x2, x3, x4, x5, x6, x7, txt, txd⟩) (o := o) (As := []) (rest := [.int (nI 1)]) C (c_X8_isRestored fu l dC dI Z.kI Z.kB Z.kZ Z.ma v (nI T) er th (nW g) (nW a) (nW u) (nW sl) (nW kp) (nI mm) (nW P0) (nW L0) sn pv (nW r0) gn vd (nI nd) x1 x2 x3 x4 x5 x6 x7 txt txd H.size _ e2) gL_law_X8_isRestored qX8_isRestored rfl ⟨(Nat.le_of_ble_eq_true rfl), (Nat.le_of_ble_eq_true rfl)⟩ ⟨rfl, rfl⟩ hP hD hS hl.1 rfl rfl (Nat.le_of_ble_eq_true rfl) dL_law_2241 ⟨by omega, by omega⟩ (fun H locs hP hD hS => ?_)
  refine lv_icmp_eq (tgt := 2318) C.hx C.hb dL_law_2244 (by decide) (fun _ => ?_) (fun h9 => absurd (by first | rfl | decide) h9)
  refine W.widen (k := cells + 8) (n := slots + 48) (by omega) (by omega) ?_
  exact KK ⟨nI T, er, nI nd, tp, fd, ee, oo1, tt, rr, sw, hh, tx⟩ ⟨v, nI T, er, nI 0, nW g, nW a, nW u, nW sl, nW kp, nI mm, nW P1, nW L1, nI n1, nI p9, nW r1, nI k1, vd, nI nd, x1, x2, x3, x4, x5, x6, x7, txt, txd⟩ o H locs ls ⟨T, er, nd, tp, fd, ee, oo1, tt, rr, sw, hh, tx, v, nI 0, g, a, u, sl, kp, mm, P1, L1, nI n1, nI p9, r1, nI k1, vd, x1, x2, x3, x4, x5, x6, x7, txt, txd, bb, rfl, rfl, hTP, hDD, hST, hOF⟩ hP hD hS (lv_sub hl [0, 1, 2, 3, 4] rfl)
set_option maxHeartbeats 4000000 in
set_option maxRecDepth 100000 in
theorem lc_58 (C : LC p l s m args c A0 K dC dI Z b L xs) (hf : 20000 ≤ fu) (hR : REL c0 m0) (hP : va_P (dC, dI) vwCl (LW Z c0 m0 o) H) (hD : va_D A0 (LW Z c0 m0 o)) (hS : va_S A0 s.heap H locs) (hl : lv_has ls 9 [(0, .ref b), (1, .ref (Z.ca 0)), (2, .ref (Z.ma 0)), (3, .ref Z.q), (4, .int i)])  (hcl : cells + 8 ≤ room_1.cells ∧ slots + 48 ≤ room_1.slots) (KK : LKK p l e s m args below meth c (cells + 8) (slots + 48) Q A0 dC dI Z b i) : W p l e room_1 s m args below meth c H locs cells slots Q (F0 m 2249 ls []) := by
  obtain ⟨hc1, hc2⟩ := hcl
  obtain ⟨T, er, nd, tp, fd, ee, oo, tt, rr, sw, hh, tx, v, th, g, a, u, sl, kp, mm, P0, L0, sn, pv, r0, gn, vd, x1, x2, x3, x4, x5, x6, x7, txt, txd, bb, rfl, rfl, hTP, hDD, hST, hOF⟩ := hR
  have hRE := hST.1
  have hG := hST.2.1
  obtain ⟨w, w1, r1, e1, e2⟩ := t_setupLength fu hf th hRE hG sw txt txd
  refine lv_aload_n C.hx C.hb dL_law_2249 rfl (lv_at hl 1 rfl) ?_
  refine lqWic (z := w) (c0 := ⟨nI T, er, nI nd, tp, fd, ee, oo, tt, rr, sw, hh, tx⟩) (c1 := ⟨nI T, er, nI nd, tp, fd, ee, oo, tt, rr, w1, hh, tx⟩) (m0 := ⟨v, nI T, er, th, nW g, nW a, nW u, nW sl, nW kp, nI mm, nW P0, nW L0, sn, pv, nW r0, gn, vd, nI nd, x1, x2, x3, x4, x5, x6, x7, txt, txd⟩) (o := o) (As := []) (rest := []) C (c_X7_setupLength fu l dC dI K Z.kI Z.kE Z.ca Z.a Z.b Z.oa Z.ob Z.ra Z.sa Z.ha Z.ux Z.uy tx (nI T) er (nI nd) tp fd ee oo tt rr sw hh H.size _ e1) gL_law_X7_setupLength qX7_setupLength rfl ⟨(Nat.le_of_ble_eq_true rfl), (Nat.le_of_ble_eq_true rfl)⟩ ⟨rfl, rfl⟩ hP hD hS hl.1 rfl rfl (Nat.le_of_ble_eq_true rfl) dL_law_2250 ⟨by omega, by omega⟩ (fun H locs hP hD hS => ?_)
  refine lv_aload_n C.hx C.hb dL_law_2253 rfl (lv_at hl 2 rfl) ?_
  refine lqMi (z := w) (c0 := ⟨nI T, er, nI nd, tp, fd, ee, oo, tt, rr, w1, hh, tx⟩) (m0 := ⟨v, nI T, er, th, nW g, nW a, nW u, nW sl, nW kp, nI mm, nW P0, nW L0, sn, pv, nW r0, gn, vd, nI nd, x1, x2, x3, x4, x5, x6, x7, txt, txd⟩) (m1 := ⟨v, nI T, er, nI 0, nW g, nW a, nW u, nW sl, nW kp, nI mm, nW P0, nW L0, sn, pv, nW r0, gn, vd, nI nd, x1, x2, x3, x4, x5, x6, x7, r1, w⟩) (o := o) (As := []) (rest := [.int w]) C (c_X8_setupLength fu l dC dI Z.kI Z.kB Z.kZ Z.ma v (nI T) er th (nW g) (nW a) (nW u) (nW sl) (nW kp) (nI mm) (nW P0) (nW L0) sn pv (nW r0) gn vd (nI nd) x1 x2 x3 x4 x5 x6 x7 txt txd H.size _ e2) gL_law_X8_setupLength qX8_setupLength rfl ⟨(Nat.le_of_ble_eq_true rfl), (Nat.le_of_ble_eq_true rfl)⟩ ⟨rfl, rfl⟩ hP hD hS hl.1 rfl rfl (Nat.le_of_ble_eq_true rfl) dL_law_2254 ⟨by omega, by omega⟩ (fun H locs hP hD hS => ?_)
  refine lv_icmp_eq (tgt := 2318) C.hx C.hb dL_law_2257 (by decide) (fun _ => ?_) (fun h9 => absurd (by first | rfl | decide) h9)
  refine W.widen (k := cells + 8) (n := slots + 48) (by omega) (by omega) ?_
  exact KK ⟨nI T, er, nI nd, tp, fd, ee, oo, tt, rr, w1, hh, tx⟩ ⟨v, nI T, er, nI 0, nW g, nW a, nW u, nW sl, nW kp, nI mm, nW P0, nW L0, sn, pv, nW r0, gn, vd, nI nd, x1, x2, x3, x4, x5, x6, x7, r1, w⟩ o H locs ls ⟨T, er, nd, tp, fd, ee, oo, tt, rr, w1, hh, tx, v, nI 0, g, a, u, sl, kp, mm, P0, L0, sn, pv, r0, gn, vd, x1, x2, x3, x4, x5, x6, x7, r1, w, bb, rfl, rfl, hTP, hDD, hST, hOF⟩ hP hD hS (lv_sub hl [0, 1, 2, 3, 4] rfl)
set_option maxHeartbeats 4000000 in
set_option maxRecDepth 100000 in
theorem lc_59 (C : LC p l s m args c A0 K dC dI Z b L xs) (hf : 20000 ≤ fu) (hR : REL c0 m0) (hP : va_P (dC, dI) vwCl (LW Z c0 m0 o) H) (hD : va_D A0 (LW Z c0 m0 o)) (hS : va_S A0 s.heap H locs) (hl : lv_has ls 9 [(0, .ref b), (1, .ref (Z.ca 0)), (2, .ref (Z.ma 0)), (3, .ref Z.q), (4, .int i)]) (hi1 : vp_in (i + 1) L) (hcl : cells + 8 ≤ room_1.cells ∧ slots + 48 ≤ room_1.slots) (KK : LKK p l e s m args below meth c (cells + 8) (slots + 48) Q A0 dC dI Z b i) : W p l e room_1 s m args below meth c H locs cells slots Q (F0 m 2262 ls []) := by
  obtain ⟨hc1, hc2⟩ := hcl
  obtain ⟨T, er, nd, tp, fd, ee, oo, tt, rr, sw, hh, tx, v, th, g, a, u, sl, kp, mm, P0, L0, sn, pv, r0, gn, vd, x1, x2, x3, x4, x5, x6, x7, txt, txd, bb, rfl, rfl, hTP, hDD, hST, hOF⟩ := hR
  have hRE := hST.1
  have hG := hST.2.1
  rcases t_setupByte fu hf th hRE hG sw txt txd (xs (i + 1).toNatClampNeg) with ⟨w, w1, r1, y1, e1, e2⟩ | ⟨w1, r1, y1, e1, e2⟩
  · refine lv_aload_n C.hx C.hb dL_law_2262 rfl (lv_at hl 1 rfl) ?_
    refine lv_aload_n C.hx C.hb dL_law_2263 rfl (lv_at hl 0 rfl) ?_
    refine lv_iload C.hx C.hb dL_law_2264 (lv_at hl 4 rfl) ?_
    refine lv_iconst (v := 1) C.hx C.hb dL_law_2266 (by decide) ?_
    refine lv_iadd C.hx C.hb dL_law_2267 ?_
    refine lq_x C hS hi1 dL_law_2268 ?_
    refine lv_aload_n C.hx C.hb dL_law_2269 rfl (lv_at hl 3 rfl) ?_
    refine lqL (r := 0) (c0 := ⟨nI T, er, nI nd, tp, fd, ee, oo, tt, rr, sw, hh, tx⟩) (c1 := ⟨nI T, er, nI nd, tp, fd, ee, oo, tt, rr, w1, hh, tx⟩) (m0 := ⟨v, nI T, er, th, nW g, nW a, nW u, nW sl, nW kp, nI mm, nW P0, nW L0, sn, pv, nW r0, gn, vd, nI nd, x1, x2, x3, x4, x5, x6, x7, txt, txd⟩) (o := o) (o1 := (vp_updL o 0 w.toInt64)) (As := [.ref (Z.ca 0), .int (xs (i + 1).toNatClampNeg), .ref Z.q]) (rest := []) C (c_L_setupByte fu l C.hl0 dC dI K Z.kI Z.kE Z.kL Z.ca Z.a Z.b Z.oa Z.ob Z.ra Z.sa Z.ha Z.ux Z.uy tx (nI T) er (nI nd) tp fd ee oo tt rr sw hh (xs (i + 1).toNatClampNeg) Z.q o H.size _ e1 0 (vp_updL o 0 w.toInt64) (Or.inl ⟨w, rfl, rfl, rfl⟩)) gL_law_L_setupByte qL_setupByte rfl ⟨(Nat.le_of_ble_eq_true rfl), (Nat.le_of_ble_eq_true rfl)⟩ ⟨rfl, rfl⟩ hP hD hS hl.1 rfl rfl (Nat.le_of_ble_eq_true rfl) dL_law_2270 ⟨by omega, by omega⟩ (fun H locs hP hD hS => ?_)
    refine W.widen (k := cells + 8) (n := slots + 48) (by omega) (by omega) ?_
    refine lv_istore (lv' := [(5, .int 0), (0, .ref b), (1, .ref (Z.ca 0)), (2, .ref (Z.ma 0)), (3, .ref Z.q), (4, .int i)]) C.hx C.hb dL_law_2273 hl (by decide) rfl (fun ls hl => ?_)
    refine lv_aload_n C.hx C.hb dL_law_2275 rfl (lv_at hl 3 rfl) ?_
    refine lv_aload_n C.hx C.hb dL_law_2276 rfl (lv_at hl 1 rfl) ?_
    refine lv_iload C.hx C.hb dL_law_2277 (lv_at hl 5 rfl) ?_
    refine lv_iconst (v := 1) C.hx C.hb dL_law_2279 (by decide) ?_
    refine lv_iadd C.hx C.hb dL_law_2280 ?_
    refine lq_x C hS hi1 dL_law_2281 ?_
    refine lqMi (z := w) (c0 := ⟨nI T, er, nI nd, tp, fd, ee, oo, tt, rr, w1, hh, tx⟩) (m0 := ⟨v, nI T, er, th, nW g, nW a, nW u, nW sl, nW kp, nI mm, nW P0, nW L0, sn, pv, nW r0, gn, vd, nI nd, x1, x2, x3, x4, x5, x6, x7, txt, txd⟩) (m1 := ⟨v, nI T, er, nI 0, nW g, nW a, nW u, nW sl, nW kp, nI mm, nW P0, nW L0, sn, pv, nW r0, gn, vd, nI nd, x1, x2, x3, x4, x5, x6, x7, r1, y1⟩) (o := (vp_updL o 0 w.toInt64)) (As := [.int (xs (i + 1).toNatClampNeg)]) (rest := []) C (c_X8_setupByte fu l dC dI Z.kI Z.kB Z.kZ Z.ma v (nI T) er th (nW g) (nW a) (nW u) (nW sl) (nW kp) (nI mm) (nW P0) (nW L0) sn pv (nW r0) gn vd (nI nd) x1 x2 x3 x4 x5 x6 x7 txt txd (xs (i + 1).toNatClampNeg) H.size _ e2) gL_law_X8_setupByte qX8_setupByte rfl ⟨(Nat.le_of_ble_eq_true rfl), (Nat.le_of_ble_eq_true rfl)⟩ ⟨rfl, rfl⟩ hP hD hS hl.1 rfl rfl (Nat.le_of_ble_eq_true rfl) dL_law_2282 ⟨by omega, by omega⟩ (fun H locs hP hD hS => ?_)
    refine lv_istore (lv' := [(6, .int w), (5, .int 0), (0, .ref b), (1, .ref (Z.ca 0)), (2, .ref (Z.ma 0)), (3, .ref Z.q), (4, .int i)]) C.hx C.hb dL_law_2285 hl (by decide) rfl (fun ls hl => ?_)
    refine lv_aload_n C.hx C.hb dL_law_2287 rfl (lv_at hl 4 rfl) ?_
    refine lqMo (z := nI 0) (c0 := ⟨nI T, er, nI nd, tp, fd, ee, oo, tt, rr, w1, hh, tx⟩) (m0 := ⟨v, nI T, er, nI 0, nW g, nW a, nW u, nW sl, nW kp, nI mm, nW P0, nW L0, sn, pv, nW r0, gn, vd, nI nd, x1, x2, x3, x4, x5, x6, x7, r1, y1⟩) (o := (vp_updL o 0 w.toInt64)) (As := []) (rest := []) C (c_X8_thrown l dC dI Z.kI Z.kB Z.kZ Z.ma v (nI T) er (nI 0) (nW g) (nW a) (nW u) (nW sl) (nW kp) (nI mm) (nW P0) (nW L0) sn pv (nW r0) gn vd (nI nd) x1 x2 x3 x4 x5 x6 x7 r1 y1 (nI 0) rfl) gL_law_X8_thrown qX8_thrown rfl ⟨(Nat.le_of_ble_eq_true rfl), (Nat.le_of_ble_eq_true rfl)⟩ ⟨rfl, rfl⟩ hP hD hS hl.1 rfl rfl (Nat.le_of_ble_eq_true rfl) dL_law_2288 ⟨by omega, by omega⟩ (fun H locs hP hD hS => ?_)
    refine lv_iload C.hx C.hb dL_law_2291 (lv_at hl 1 rfl) ?_
    refine lv_icmp_eq (tgt := 2298) C.hx C.hb dL_law_2293 (by decide) (fun _ => ?_) (fun h9 => absurd (by first | rfl | decide) h9)
    refine lv_iload C.hx C.hb dL_law_2298 (lv_at hl 1 rfl) ?_
    refine lv_if_ne (tgt := 2315) C.hx C.hb dL_law_2300 (by decide) (fun h9 => absurd rfl h9) (fun _ => ?_)
    refine lv_aload_n C.hx C.hb dL_law_2303 rfl (lv_at hl 5 rfl) ?_
    refine lv_iconst (v := 0) C.hx C.hb dL_law_2304 (by decide) ?_
    refine lq_o C hP dL_law_2305 ?_
    refine lv_iload C.hx C.hb dL_law_2306 (lv_at hl 0 rfl) ?_
    refine lv_i2l (v := w.toInt64) C.hx C.hb dL_law_2308 rfl ?_
    refine W.lcmp C.hx C.hb dL_law_2309 ?_
    refine lv_if_eq (tgt := 2315) C.hx C.hb dL_law_2310 (by decide) (fun _ => ?_) (fun h9 => absurd (cmp_self _) h9)
    refine lv_goto (tgt := 2318) C.hx C.hb dL_law_2315 (by decide) ?_
    exact KK ⟨nI T, er, nI nd, tp, fd, ee, oo, tt, rr, w1, hh, tx⟩ ⟨v, nI T, er, nI 0, nW g, nW a, nW u, nW sl, nW kp, nI mm, nW P0, nW L0, sn, pv, nW r0, gn, vd, nI nd, x1, x2, x3, x4, x5, x6, x7, r1, y1⟩ (vp_updL o 0 w.toInt64) H locs ls ⟨T, er, nd, tp, fd, ee, oo, tt, rr, w1, hh, tx, v, nI 0, g, a, u, sl, kp, mm, P0, L0, sn, pv, r0, gn, vd, x1, x2, x3, x4, x5, x6, x7, r1, y1, bb, rfl, rfl, hTP, hDD, hST, hOF⟩ hP hD hS (lv_sub hl [2, 3, 4, 5, 6] rfl)
  · refine lv_aload_n C.hx C.hb dL_law_2262 rfl (lv_at hl 1 rfl) ?_
    refine lv_aload_n C.hx C.hb dL_law_2263 rfl (lv_at hl 0 rfl) ?_
    refine lv_iload C.hx C.hb dL_law_2264 (lv_at hl 4 rfl) ?_
    refine lv_iconst (v := 1) C.hx C.hb dL_law_2266 (by decide) ?_
    refine lv_iadd C.hx C.hb dL_law_2267 ?_
    refine lq_x C hS hi1 dL_law_2268 ?_
    refine lv_aload_n C.hx C.hb dL_law_2269 rfl (lv_at hl 3 rfl) ?_
    refine lqL (r := 1) (c0 := ⟨nI T, er, nI nd, tp, fd, ee, oo, tt, rr, sw, hh, tx⟩) (c1 := ⟨nI T, er, nI nd, tp, fd, ee, oo, tt, rr, w1, hh, tx⟩) (m0 := ⟨v, nI T, er, th, nW g, nW a, nW u, nW sl, nW kp, nI mm, nW P0, nW L0, sn, pv, nW r0, gn, vd, nI nd, x1, x2, x3, x4, x5, x6, x7, txt, txd⟩) (o := o) (o1 := o) (As := [.ref (Z.ca 0), .int (xs (i + 1).toNatClampNeg), .ref Z.q]) (rest := []) C (c_L_setupByte fu l C.hl0 dC dI K Z.kI Z.kE Z.kL Z.ca Z.a Z.b Z.oa Z.ob Z.ra Z.sa Z.ha Z.ux Z.uy tx (nI T) er (nI nd) tp fd ee oo tt rr sw hh (xs (i + 1).toNatClampNeg) Z.q o H.size _ e1 1 o (Or.inr ⟨rfl, rfl, rfl⟩)) gL_law_L_setupByte qL_setupByte rfl ⟨(Nat.le_of_ble_eq_true rfl), (Nat.le_of_ble_eq_true rfl)⟩ ⟨rfl, rfl⟩ hP hD hS hl.1 rfl rfl (Nat.le_of_ble_eq_true rfl) dL_law_2270 ⟨by omega, by omega⟩ (fun H locs hP hD hS => ?_)
    refine W.widen (k := cells + 8) (n := slots + 48) (by omega) (by omega) ?_
    refine lv_istore (lv' := [(5, .int 1), (0, .ref b), (1, .ref (Z.ca 0)), (2, .ref (Z.ma 0)), (3, .ref Z.q), (4, .int i)]) C.hx C.hb dL_law_2273 hl (by decide) rfl (fun ls hl => ?_)
    refine lv_aload_n C.hx C.hb dL_law_2275 rfl (lv_at hl 3 rfl) ?_
    refine lv_aload_n C.hx C.hb dL_law_2276 rfl (lv_at hl 1 rfl) ?_
    refine lv_iload C.hx C.hb dL_law_2277 (lv_at hl 5 rfl) ?_
    refine lv_iconst (v := 1) C.hx C.hb dL_law_2279 (by decide) ?_
    refine lv_iadd C.hx C.hb dL_law_2280 ?_
    refine lq_x C hS hi1 dL_law_2281 ?_
    refine lqMi (z := nI 0) (c0 := ⟨nI T, er, nI nd, tp, fd, ee, oo, tt, rr, w1, hh, tx⟩) (m0 := ⟨v, nI T, er, th, nW g, nW a, nW u, nW sl, nW kp, nI mm, nW P0, nW L0, sn, pv, nW r0, gn, vd, nI nd, x1, x2, x3, x4, x5, x6, x7, txt, txd⟩) (m1 := ⟨v, nI T, er, nI 1, nW g, nW a, nW u, nW sl, nW kp, nI mm, nW P0, nW L0, sn, pv, nW r0, gn, vd, nI nd, x1, x2, x3, x4, x5, x6, x7, r1, y1⟩) (o := o) (As := [.int (xs (i + 1).toNatClampNeg)]) (rest := []) C (c_X8_setupByte fu l dC dI Z.kI Z.kB Z.kZ Z.ma v (nI T) er th (nW g) (nW a) (nW u) (nW sl) (nW kp) (nI mm) (nW P0) (nW L0) sn pv (nW r0) gn vd (nI nd) x1 x2 x3 x4 x5 x6 x7 txt txd (xs (i + 1).toNatClampNeg) H.size _ e2) gL_law_X8_setupByte qX8_setupByte rfl ⟨(Nat.le_of_ble_eq_true rfl), (Nat.le_of_ble_eq_true rfl)⟩ ⟨rfl, rfl⟩ hP hD hS hl.1 rfl rfl (Nat.le_of_ble_eq_true rfl) dL_law_2282 ⟨by omega, by omega⟩ (fun H locs hP hD hS => ?_)
    refine lv_istore (lv' := [(6, .int (nI 0)), (5, .int 1), (0, .ref b), (1, .ref (Z.ca 0)), (2, .ref (Z.ma 0)), (3, .ref Z.q), (4, .int i)]) C.hx C.hb dL_law_2285 hl (by decide) rfl (fun ls hl => ?_)
    refine lv_aload_n C.hx C.hb dL_law_2287 rfl (lv_at hl 4 rfl) ?_
    refine lqMo (z := nI 1) (c0 := ⟨nI T, er, nI nd, tp, fd, ee, oo, tt, rr, w1, hh, tx⟩) (m0 := ⟨v, nI T, er, nI 1, nW g, nW a, nW u, nW sl, nW kp, nI mm, nW P0, nW L0, sn, pv, nW r0, gn, vd, nI nd, x1, x2, x3, x4, x5, x6, x7, r1, y1⟩) (o := o) (As := []) (rest := []) C (c_X8_thrown l dC dI Z.kI Z.kB Z.kZ Z.ma v (nI T) er (nI 1) (nW g) (nW a) (nW u) (nW sl) (nW kp) (nI mm) (nW P0) (nW L0) sn pv (nW r0) gn vd (nI nd) x1 x2 x3 x4 x5 x6 x7 r1 y1 (nI 1) rfl) gL_law_X8_thrown qX8_thrown rfl ⟨(Nat.le_of_ble_eq_true rfl), (Nat.le_of_ble_eq_true rfl)⟩ ⟨rfl, rfl⟩ hP hD hS hl.1 rfl rfl (Nat.le_of_ble_eq_true rfl) dL_law_2288 ⟨by omega, by omega⟩ (fun H locs hP hD hS => ?_)
    refine lv_iload C.hx C.hb dL_law_2291 (lv_at hl 1 rfl) ?_
    refine lv_icmp_eq (tgt := 2298) C.hx C.hb dL_law_2293 (by decide) (fun _ => ?_) (fun h9 => absurd (by first | rfl | decide) h9)
    refine lv_iload C.hx C.hb dL_law_2298 (lv_at hl 1 rfl) ?_
    refine lv_if_ne (tgt := 2315) C.hx C.hb dL_law_2300 (by decide) (fun _ => ?_) (fun h9 => absurd h9 (by decide))
    refine lv_goto (tgt := 2318) C.hx C.hb dL_law_2315 (by decide) ?_
    exact KK ⟨nI T, er, nI nd, tp, fd, ee, oo, tt, rr, w1, hh, tx⟩ ⟨v, nI T, er, nI 1, nW g, nW a, nW u, nW sl, nW kp, nI mm, nW P0, nW L0, sn, pv, nW r0, gn, vd, nI nd, x1, x2, x3, x4, x5, x6, x7, r1, y1⟩ o H locs ls ⟨T, er, nd, tp, fd, ee, oo, tt, rr, w1, hh, tx, v, nI 1, g, a, u, sl, kp, mm, P0, L0, sn, pv, r0, gn, vd, x1, x2, x3, x4, x5, x6, x7, r1, y1, bb, rfl, rfl, hTP, hDD, hST, hOF⟩ hP hD hS (lv_sub hl [2, 3, 4, 5, 6] rfl)
end LCASES3
