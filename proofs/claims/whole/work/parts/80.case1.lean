section LCASES1
variable {p : Program} {l : Launch} {e : Env} {s : State} {m : MethodId} {args : Array Value} {below : List Frame} {meth : Method} {c : Code} {H : Heap} {locs : List Loc} {cells slots : Nat} {Q : State → Prop}
variable {ls : Array Slot} {A0 : Nat → Prop} {K : KT} {dC : Nat → ClassId} {dI : Nat → Nat → Nat} {Z : AD} {b L : Nat} {xs : Nat → Int32} {c0 : CS} {m0 : MS} {o : Nat → Int64} {i : Int32} {fu : Nat}
set_option maxHeartbeats 4000000 in
set_option maxRecDepth 100000 in
theorem lc_15 (C : LC p l s m args c A0 K dC dI Z b L xs) (hf : 20000 ≤ fu) (hR : REL c0 m0) (hP : va_P (dC, dI) vwCl (LW Z c0 m0 o) H) (hD : va_D A0 (LW Z c0 m0 o)) (hS : va_S A0 s.heap H locs) (hl : lv_has ls 9 [(0, .ref b), (1, .ref (Z.ca 0)), (2, .ref (Z.ma 0)), (3, .ref Z.q), (4, .int i)])  (hcl : cells + 8 ≤ room_1.cells ∧ slots + 48 ≤ room_1.slots) (KK : LKK p l e s m args below meth c (cells + 8) (slots + 48) Q A0 dC dI Z b i) : W p l e room_1 s m args below meth c H locs cells slots Q (F0 m 944 ls []) := by
  obtain ⟨hc1, hc2⟩ := hcl
  obtain ⟨T, er, nd, tp, fd, ee, oo, tt, rr, sw, hh, tx, v, th, g, a, u, sl, kp, mm, P0, L0, sn, pv, r0, gn, vd, x1, x2, x3, x4, x5, x6, x7, txt, txd, bb, rfl, rfl, hTP, hDD, hST, hOF⟩ := hR
  have hRE := hST.1
  have hG := hST.2.1
  obtain ⟨w, e1, e2⟩ := (t_looks0 fu hf th hRE hG).2.1
  refine lv_aload_n C.hx C.hb dL_law_944 rfl (lv_at hl 1 rfl) ?_
  refine lqRi (z := w) (c0 := ⟨nI T, er, nI nd, tp, fd, ee, oo, tt, rr, sw, hh, tx⟩) (m0 := ⟨v, nI T, er, th, nW g, nW a, nW u, nW sl, nW kp, nI mm, nW P0, nW L0, sn, pv, nW r0, gn, vd, nI nd, x1, x2, x3, x4, x5, x6, x7, txt, txd⟩) (o := o) (As := []) (rest := []) C (c_X7_greatestWidth l dC dI Z.kI Z.kE Z.ca Z.a Z.b Z.oa Z.ob Z.ra Z.sa Z.ha Z.ux Z.uy tx (nI T) er (nI nd) tp fd ee oo tt rr sw hh _ e1) gL_law_X7_greatestWidth qX7_greatestWidth rfl ⟨(Nat.le_of_ble_eq_true rfl), (Nat.le_of_ble_eq_true rfl)⟩ ⟨rfl, rfl⟩ hP hD hS hl.1 rfl rfl (Nat.le_of_ble_eq_true rfl) dL_law_945 ⟨by omega, by omega⟩ (fun H locs hP hD hS => ?_)
  refine lv_aload_n C.hx C.hb dL_law_948 rfl (lv_at hl 2 rfl) ?_
  refine lqMi (z := w) (c0 := ⟨nI T, er, nI nd, tp, fd, ee, oo, tt, rr, sw, hh, tx⟩) (m0 := ⟨v, nI T, er, th, nW g, nW a, nW u, nW sl, nW kp, nI mm, nW P0, nW L0, sn, pv, nW r0, gn, vd, nI nd, x1, x2, x3, x4, x5, x6, x7, txt, txd⟩) (m1 := ⟨v, nI T, er, nI 0, nW g, nW a, nW u, nW sl, nW kp, nI mm, nW P0, nW L0, sn, pv, nW r0, gn, vd, nI nd, x1, x2, x3, x4, x5, x6, x7, txt, txd⟩) (o := o) (As := []) (rest := [.int w]) C (c_X8_greatestWidth l dC dI Z.kI Z.kB Z.kZ Z.ma v (nI T) er th (nW g) (nW a) (nW u) (nW sl) (nW kp) (nI mm) (nW P0) (nW L0) sn pv (nW r0) gn vd (nI nd) x1 x2 x3 x4 x5 x6 x7 txt txd H.size _ e2) gL_law_X8_greatestWidth qX8_greatestWidth rfl ⟨(Nat.le_of_ble_eq_true rfl), (Nat.le_of_ble_eq_true rfl)⟩ ⟨rfl, rfl⟩ hP hD hS hl.1 rfl rfl (Nat.le_of_ble_eq_true rfl) dL_law_949 ⟨by omega, by omega⟩ (fun H locs hP hD hS => ?_)
  refine lv_icmp_eq (tgt := 2318) C.hx C.hb dL_law_952 (by decide) (fun _ => ?_) (fun h9 => absurd (by first | rfl | decide) h9)
  refine W.widen (k := cells + 8) (n := slots + 48) (by omega) (by omega) ?_
  exact KK ⟨nI T, er, nI nd, tp, fd, ee, oo, tt, rr, sw, hh, tx⟩ ⟨v, nI T, er, nI 0, nW g, nW a, nW u, nW sl, nW kp, nI mm, nW P0, nW L0, sn, pv, nW r0, gn, vd, nI nd, x1, x2, x3, x4, x5, x6, x7, txt, txd⟩ o H locs ls ⟨T, er, nd, tp, fd, ee, oo, tt, rr, sw, hh, tx, v, nI 0, g, a, u, sl, kp, mm, P0, L0, sn, pv, r0, gn, vd, x1, x2, x3, x4, x5, x6, x7, txt, txd, bb, rfl, rfl, hTP, hDD, hST, hOF⟩ hP hD hS (lv_sub hl [0, 1, 2, 3, 4] rfl)
set_option maxHeartbeats 4000000 in
set_option maxRecDepth 100000 in
theorem lc_16 (C : LC p l s m args c A0 K dC dI Z b L xs) (hf : 20000 ≤ fu) (hR : REL c0 m0) (hP : va_P (dC, dI) vwCl (LW Z c0 m0 o) H) (hD : va_D A0 (LW Z c0 m0 o)) (hS : va_S A0 s.heap H locs) (hl : lv_has ls 9 [(0, .ref b), (1, .ref (Z.ca 0)), (2, .ref (Z.ma 0)), (3, .ref Z.q), (4, .int i)])  (hcl : cells + 8 ≤ room_1.cells ∧ slots + 48 ≤ room_1.slots) (KK : LKK p l e s m args below meth c (cells + 8) (slots + 48) Q A0 dC dI Z b i) : W p l e room_1 s m args below meth c H locs cells slots Q (F0 m 957 ls []) := by
  obtain ⟨hc1, hc2⟩ := hcl
  obtain ⟨T, er, nd, tp, fd, ee, oo, tt, rr, sw, hh, tx, v, th, g, a, u, sl, kp, mm, P0, L0, sn, pv, r0, gn, vd, x1, x2, x3, x4, x5, x6, x7, txt, txd, bb, rfl, rfl, hTP, hDD, hST, hOF⟩ := hR
  have hRE := hST.1
  have hG := hST.2.1
  obtain ⟨w, e1, e2⟩ := (t_looks0 fu hf th hRE hG).2.2.1
  refine lv_aload_n C.hx C.hb dL_law_957 rfl (lv_at hl 1 rfl) ?_
  refine lqRi (z := w) (c0 := ⟨nI T, er, nI nd, tp, fd, ee, oo, tt, rr, sw, hh, tx⟩) (m0 := ⟨v, nI T, er, th, nW g, nW a, nW u, nW sl, nW kp, nI mm, nW P0, nW L0, sn, pv, nW r0, gn, vd, nI nd, x1, x2, x3, x4, x5, x6, x7, txt, txd⟩) (o := o) (As := []) (rest := []) C (c_X7_policy l dC dI Z.kI Z.kE Z.ca Z.a Z.b Z.oa Z.ob Z.ra Z.sa Z.ha Z.ux Z.uy tx (nI T) er (nI nd) tp fd ee oo tt rr sw hh _ e1) gL_law_X7_policy qX7_policy rfl ⟨(Nat.le_of_ble_eq_true rfl), (Nat.le_of_ble_eq_true rfl)⟩ ⟨rfl, rfl⟩ hP hD hS hl.1 rfl rfl (Nat.le_of_ble_eq_true rfl) dL_law_958 ⟨by omega, by omega⟩ (fun H locs hP hD hS => ?_)
  refine lv_aload_n C.hx C.hb dL_law_961 rfl (lv_at hl 2 rfl) ?_
  refine lqMi (z := w) (c0 := ⟨nI T, er, nI nd, tp, fd, ee, oo, tt, rr, sw, hh, tx⟩) (m0 := ⟨v, nI T, er, th, nW g, nW a, nW u, nW sl, nW kp, nI mm, nW P0, nW L0, sn, pv, nW r0, gn, vd, nI nd, x1, x2, x3, x4, x5, x6, x7, txt, txd⟩) (m1 := ⟨v, nI T, er, nI 0, nW g, nW a, nW u, nW sl, nW kp, nI mm, nW P0, nW L0, sn, pv, nW r0, gn, vd, nI nd, x1, x2, x3, x4, x5, x6, x7, txt, txd⟩) (o := o) (As := []) (rest := [.int w]) C (c_X8_policy l dC dI Z.kI Z.kB Z.kZ Z.ma v (nI T) er th (nW g) (nW a) (nW u) (nW sl) (nW kp) (nI mm) (nW P0) (nW L0) sn pv (nW r0) gn vd (nI nd) x1 x2 x3 x4 x5 x6 x7 txt txd H.size _ e2) gL_law_X8_policy qX8_policy rfl ⟨(Nat.le_of_ble_eq_true rfl), (Nat.le_of_ble_eq_true rfl)⟩ ⟨rfl, rfl⟩ hP hD hS hl.1 rfl rfl (Nat.le_of_ble_eq_true rfl) dL_law_962 ⟨by omega, by omega⟩ (fun H locs hP hD hS => ?_)
  refine lv_icmp_eq (tgt := 2318) C.hx C.hb dL_law_965 (by decide) (fun _ => ?_) (fun h9 => absurd (by first | rfl | decide) h9)
  refine W.widen (k := cells + 8) (n := slots + 48) (by omega) (by omega) ?_
  exact KK ⟨nI T, er, nI nd, tp, fd, ee, oo, tt, rr, sw, hh, tx⟩ ⟨v, nI T, er, nI 0, nW g, nW a, nW u, nW sl, nW kp, nI mm, nW P0, nW L0, sn, pv, nW r0, gn, vd, nI nd, x1, x2, x3, x4, x5, x6, x7, txt, txd⟩ o H locs ls ⟨T, er, nd, tp, fd, ee, oo, tt, rr, sw, hh, tx, v, nI 0, g, a, u, sl, kp, mm, P0, L0, sn, pv, r0, gn, vd, x1, x2, x3, x4, x5, x6, x7, txt, txd, bb, rfl, rfl, hTP, hDD, hST, hOF⟩ hP hD hS (lv_sub hl [0, 1, 2, 3, 4] rfl)
set_option maxHeartbeats 4000000 in
set_option maxRecDepth 100000 in
theorem lc_17 (C : LC p l s m args c A0 K dC dI Z b L xs) (hf : 20000 ≤ fu) (hR : REL c0 m0) (hP : va_P (dC, dI) vwCl (LW Z c0 m0 o) H) (hD : va_D A0 (LW Z c0 m0 o)) (hS : va_S A0 s.heap H locs) (hl : lv_has ls 9 [(0, .ref b), (1, .ref (Z.ca 0)), (2, .ref (Z.ma 0)), (3, .ref Z.q), (4, .int i)])  (hcl : cells + 8 ≤ room_1.cells ∧ slots + 48 ≤ room_1.slots) (KK : LKK p l e s m args below meth c (cells + 8) (slots + 48) Q A0 dC dI Z b i) : W p l e room_1 s m args below meth c H locs cells slots Q (F0 m 970 ls []) := by
  obtain ⟨hc1, hc2⟩ := hcl
  obtain ⟨T, er, nd, tp, fd, ee, oo, tt, rr, sw, hh, tx, v, th, g, a, u, sl, kp, mm, P0, L0, sn, pv, r0, gn, vd, x1, x2, x3, x4, x5, x6, x7, txt, txd, bb, rfl, rfl, hTP, hDD, hST, hOF⟩ := hR
  have hRE := hST.1
  have hG := hST.2.1
  obtain ⟨w, e1, e2⟩ := (t_looks0 fu hf th hRE hG).2.2.2.1
  refine lv_aload_n C.hx C.hb dL_law_970 rfl (lv_at hl 1 rfl) ?_
  refine lqRi (z := w) (c0 := ⟨nI T, er, nI nd, tp, fd, ee, oo, tt, rr, sw, hh, tx⟩) (m0 := ⟨v, nI T, er, th, nW g, nW a, nW u, nW sl, nW kp, nI mm, nW P0, nW L0, sn, pv, nW r0, gn, vd, nI nd, x1, x2, x3, x4, x5, x6, x7, txt, txd⟩) (o := o) (As := []) (rest := []) C (c_X7_limit l dC dI Z.kI Z.kE Z.ca Z.a Z.b Z.oa Z.ob Z.ra Z.sa Z.ha Z.ux Z.uy tx (nI T) er (nI nd) tp fd ee oo tt rr sw hh _ e1) gL_law_X7_limit qX7_limit rfl ⟨(Nat.le_of_ble_eq_true rfl), (Nat.le_of_ble_eq_true rfl)⟩ ⟨rfl, rfl⟩ hP hD hS hl.1 rfl rfl (Nat.le_of_ble_eq_true rfl) dL_law_971 ⟨by omega, by omega⟩ (fun H locs hP hD hS => ?_)
  refine lv_aload_n C.hx C.hb dL_law_974 rfl (lv_at hl 2 rfl) ?_
  refine lqMi (z := w) (c0 := ⟨nI T, er, nI nd, tp, fd, ee, oo, tt, rr, sw, hh, tx⟩) (m0 := ⟨v, nI T, er, th, nW g, nW a, nW u, nW sl, nW kp, nI mm, nW P0, nW L0, sn, pv, nW r0, gn, vd, nI nd, x1, x2, x3, x4, x5, x6, x7, txt, txd⟩) (m1 := ⟨v, nI T, er, nI 0, nW g, nW a, nW u, nW sl, nW kp, nI mm, nW P0, nW L0, sn, pv, nW r0, gn, vd, nI nd, x1, x2, x3, x4, x5, x6, x7, txt, txd⟩) (o := o) (As := []) (rest := [.int w]) C (c_X8_limit l dC dI Z.kI Z.kB Z.kZ Z.ma v (nI T) er th (nW g) (nW a) (nW u) (nW sl) (nW kp) (nI mm) (nW P0) (nW L0) sn pv (nW r0) gn vd (nI nd) x1 x2 x3 x4 x5 x6 x7 txt txd H.size _ e2) gL_law_X8_limit qX8_limit rfl ⟨(Nat.le_of_ble_eq_true rfl), (Nat.le_of_ble_eq_true rfl)⟩ ⟨rfl, rfl⟩ hP hD hS hl.1 rfl rfl (Nat.le_of_ble_eq_true rfl) dL_law_975 ⟨by omega, by omega⟩ (fun H locs hP hD hS => ?_)
  refine lv_icmp_eq (tgt := 2318) C.hx C.hb dL_law_978 (by decide) (fun _ => ?_) (fun h9 => absurd (by first | rfl | decide) h9)
  refine W.widen (k := cells + 8) (n := slots + 48) (by omega) (by omega) ?_
  exact KK ⟨nI T, er, nI nd, tp, fd, ee, oo, tt, rr, sw, hh, tx⟩ ⟨v, nI T, er, nI 0, nW g, nW a, nW u, nW sl, nW kp, nI mm, nW P0, nW L0, sn, pv, nW r0, gn, vd, nI nd, x1, x2, x3, x4, x5, x6, x7, txt, txd⟩ o H locs ls ⟨T, er, nd, tp, fd, ee, oo, tt, rr, sw, hh, tx, v, nI 0, g, a, u, sl, kp, mm, P0, L0, sn, pv, r0, gn, vd, x1, x2, x3, x4, x5, x6, x7, txt, txd, bb, rfl, rfl, hTP, hDD, hST, hOF⟩ hP hD hS (lv_sub hl [0, 1, 2, 3, 4] rfl)
set_option maxHeartbeats 4000000 in
set_option maxRecDepth 100000 in
theorem lc_18 (C : LC p l s m args c A0 K dC dI Z b L xs) (hf : 20000 ≤ fu) (hR : REL c0 m0) (hP : va_P (dC, dI) vwCl (LW Z c0 m0 o) H) (hD : va_D A0 (LW Z c0 m0 o)) (hS : va_S A0 s.heap H locs) (hl : lv_has ls 9 [(0, .ref b), (1, .ref (Z.ca 0)), (2, .ref (Z.ma 0)), (3, .ref Z.q), (4, .int i)])  (hcl : cells + 8 ≤ room_1.cells ∧ slots + 48 ≤ room_1.slots) (KK : LKK p l e s m args below meth c (cells + 8) (slots + 48) Q A0 dC dI Z b i) : W p l e room_1 s m args below meth c H locs cells slots Q (F0 m 983 ls []) := by
  obtain ⟨hc1, hc2⟩ := hcl
  obtain ⟨T, er, nd, tp, fd, ee, oo, tt, rr, sw, hh, tx, v, th, g, a, u, sl, kp, mm, P0, L0, sn, pv, r0, gn, vd, x1, x2, x3, x4, x5, x6, x7, txt, txd, bb, rfl, rfl, hTP, hDD, hST, hOF⟩ := hR
  have hRE := hST.1
  have hG := hST.2.1
  obtain ⟨w, e1, e2⟩ := (t_looks1 fu hf th hRE hG).1
  refine lv_aload_n C.hx C.hb dL_law_983 rfl (lv_at hl 1 rfl) ?_
  refine lqRi (z := w) (c0 := ⟨nI T, er, nI nd, tp, fd, ee, oo, tt, rr, sw, hh, tx⟩) (m0 := ⟨v, nI T, er, th, nW g, nW a, nW u, nW sl, nW kp, nI mm, nW P0, nW L0, sn, pv, nW r0, gn, vd, nI nd, x1, x2, x3, x4, x5, x6, x7, txt, txd⟩) (o := o) (As := []) (rest := []) C (c_X7_plainWidth fu l dC dI Z.kI Z.kE Z.ca Z.a Z.b Z.oa Z.ob Z.ra Z.sa Z.ha Z.ux Z.uy tx (nI T) er (nI nd) tp fd ee oo tt rr sw hh _ e1) gL_law_X7_plainWidth qX7_plainWidth rfl ⟨(Nat.le_of_ble_eq_true rfl), (Nat.le_of_ble_eq_true rfl)⟩ ⟨rfl, rfl⟩ hP hD hS hl.1 rfl rfl (Nat.le_of_ble_eq_true rfl) dL_law_984 ⟨by omega, by omega⟩ (fun H locs hP hD hS => ?_)
  refine lv_aload_n C.hx C.hb dL_law_987 rfl (lv_at hl 2 rfl) ?_
  refine lqMi (z := w) (c0 := ⟨nI T, er, nI nd, tp, fd, ee, oo, tt, rr, sw, hh, tx⟩) (m0 := ⟨v, nI T, er, th, nW g, nW a, nW u, nW sl, nW kp, nI mm, nW P0, nW L0, sn, pv, nW r0, gn, vd, nI nd, x1, x2, x3, x4, x5, x6, x7, txt, txd⟩) (m1 := ⟨v, nI T, er, nI 0, nW g, nW a, nW u, nW sl, nW kp, nI mm, nW P0, nW L0, sn, pv, nW r0, gn, vd, nI nd, x1, x2, x3, x4, x5, x6, x7, txt, txd⟩) (o := o) (As := []) (rest := [.int w]) C (c_X8_plainWidth fu l dC dI Z.kI Z.kB Z.kZ Z.ma v (nI T) er th (nW g) (nW a) (nW u) (nW sl) (nW kp) (nI mm) (nW P0) (nW L0) sn pv (nW r0) gn vd (nI nd) x1 x2 x3 x4 x5 x6 x7 txt txd H.size _ e2) gL_law_X8_plainWidth qX8_plainWidth rfl ⟨(Nat.le_of_ble_eq_true rfl), (Nat.le_of_ble_eq_true rfl)⟩ ⟨rfl, rfl⟩ hP hD hS hl.1 rfl rfl (Nat.le_of_ble_eq_true rfl) dL_law_988 ⟨by omega, by omega⟩ (fun H locs hP hD hS => ?_)
  refine lv_icmp_eq (tgt := 2318) C.hx C.hb dL_law_991 (by decide) (fun _ => ?_) (fun h9 => absurd (by first | rfl | decide) h9)
  refine W.widen (k := cells + 8) (n := slots + 48) (by omega) (by omega) ?_
  exact KK ⟨nI T, er, nI nd, tp, fd, ee, oo, tt, rr, sw, hh, tx⟩ ⟨v, nI T, er, nI 0, nW g, nW a, nW u, nW sl, nW kp, nI mm, nW P0, nW L0, sn, pv, nW r0, gn, vd, nI nd, x1, x2, x3, x4, x5, x6, x7, txt, txd⟩ o H locs ls ⟨T, er, nd, tp, fd, ee, oo, tt, rr, sw, hh, tx, v, nI 0, g, a, u, sl, kp, mm, P0, L0, sn, pv, r0, gn, vd, x1, x2, x3, x4, x5, x6, x7, txt, txd, bb, rfl, rfl, hTP, hDD, hST, hOF⟩ hP hD hS (lv_sub hl [0, 1, 2, 3, 4] rfl)
set_option maxHeartbeats 4000000 in
set_option maxRecDepth 100000 in
theorem lc_19 (C : LC p l s m args c A0 K dC dI Z b L xs) (hf : 20000 ≤ fu) (hR : REL c0 m0) (hP : va_P (dC, dI) vwCl (LW Z c0 m0 o) H) (hD : va_D A0 (LW Z c0 m0 o)) (hS : va_S A0 s.heap H locs) (hl : lv_has ls 9 [(0, .ref b), (1, .ref (Z.ca 0)), (2, .ref (Z.ma 0)), (3, .ref Z.q), (4, .int i)])  (hcl : cells + 8 ≤ room_1.cells ∧ slots + 48 ≤ room_1.slots) (KK : LKK p l e s m args below meth c (cells + 8) (slots + 48) Q A0 dC dI Z b i) : W p l e room_1 s m args below meth c H locs cells slots Q (F0 m 996 ls []) := by
  obtain ⟨hc1, hc2⟩ := hcl
  obtain ⟨T, er, nd, tp, fd, ee, oo, tt, rr, sw, hh, tx, v, th, g, a, u, sl, kp, mm, P0, L0, sn, pv, r0, gn, vd, x1, x2, x3, x4, x5, x6, x7, txt, txd, bb, rfl, rfl, hTP, hDD, hST, hOF⟩ := hR
  have hRE := hST.1
  have hG := hST.2.1
  obtain ⟨w, e1, e2⟩ := (t_looks0 fu hf th hRE hG).2.2.2.2.1
  refine lv_aload_n C.hx C.hb dL_law_996 rfl (lv_at hl 1 rfl) ?_
  refine lqRi (z := w) (c0 := ⟨nI T, er, nI nd, tp, fd, ee, oo, tt, rr, sw, hh, tx⟩) (m0 := ⟨v, nI T, er, th, nW g, nW a, nW u, nW sl, nW kp, nI mm, nW P0, nW L0, sn, pv, nW r0, gn, vd, nI nd, x1, x2, x3, x4, x5, x6, x7, txt, txd⟩) (o := o) (As := []) (rest := []) C (c_X7_clearCode l dC dI Z.kI Z.kE Z.ca Z.a Z.b Z.oa Z.ob Z.ra Z.sa Z.ha Z.ux Z.uy tx (nI T) er (nI nd) tp fd ee oo tt rr sw hh _ e1) gL_law_X7_clearCode qX7_clearCode rfl ⟨(Nat.le_of_ble_eq_true rfl), (Nat.le_of_ble_eq_true rfl)⟩ ⟨rfl, rfl⟩ hP hD hS hl.1 rfl rfl (Nat.le_of_ble_eq_true rfl) dL_law_997 ⟨by omega, by omega⟩ (fun H locs hP hD hS => ?_)
  refine lv_aload_n C.hx C.hb dL_law_1000 rfl (lv_at hl 2 rfl) ?_
  refine lqMi (z := w) (c0 := ⟨nI T, er, nI nd, tp, fd, ee, oo, tt, rr, sw, hh, tx⟩) (m0 := ⟨v, nI T, er, th, nW g, nW a, nW u, nW sl, nW kp, nI mm, nW P0, nW L0, sn, pv, nW r0, gn, vd, nI nd, x1, x2, x3, x4, x5, x6, x7, txt, txd⟩) (m1 := ⟨v, nI T, er, nI 0, nW g, nW a, nW u, nW sl, nW kp, nI mm, nW P0, nW L0, sn, pv, nW r0, gn, vd, nI nd, x1, x2, x3, x4, x5, x6, x7, txt, txd⟩) (o := o) (As := []) (rest := [.int w]) C (c_X8_clearCode l dC dI Z.kI Z.kB Z.kZ Z.ma v (nI T) er th (nW g) (nW a) (nW u) (nW sl) (nW kp) (nI mm) (nW P0) (nW L0) sn pv (nW r0) gn vd (nI nd) x1 x2 x3 x4 x5 x6 x7 txt txd H.size _ e2) gL_law_X8_clearCode qX8_clearCode rfl ⟨(Nat.le_of_ble_eq_true rfl), (Nat.le_of_ble_eq_true rfl)⟩ ⟨rfl, rfl⟩ hP hD hS hl.1 rfl rfl (Nat.le_of_ble_eq_true rfl) dL_law_1001 ⟨by omega, by omega⟩ (fun H locs hP hD hS => ?_)
  refine lv_icmp_eq (tgt := 2318) C.hx C.hb dL_law_1004 (by decide) (fun _ => ?_) (fun h9 => absurd (by first | rfl | decide) h9)
  refine W.widen (k := cells + 8) (n := slots + 48) (by omega) (by omega) ?_
  exact KK ⟨nI T, er, nI nd, tp, fd, ee, oo, tt, rr, sw, hh, tx⟩ ⟨v, nI T, er, nI 0, nW g, nW a, nW u, nW sl, nW kp, nI mm, nW P0, nW L0, sn, pv, nW r0, gn, vd, nI nd, x1, x2, x3, x4, x5, x6, x7, txt, txd⟩ o H locs ls ⟨T, er, nd, tp, fd, ee, oo, tt, rr, sw, hh, tx, v, nI 0, g, a, u, sl, kp, mm, P0, L0, sn, pv, r0, gn, vd, x1, x2, x3, x4, x5, x6, x7, txt, txd, bb, rfl, rfl, hTP, hDD, hST, hOF⟩ hP hD hS (lv_sub hl [0, 1, 2, 3, 4] rfl)
set_option maxHeartbeats 4000000 in
set_option maxRecDepth 100000 in
theorem lc_20 (C : LC p l s m args c A0 K dC dI Z b L xs) (hf : 20000 ≤ fu) (hR : REL c0 m0) (hP : va_P (dC, dI) vwCl (LW Z c0 m0 o) H) (hD : va_D A0 (LW Z c0 m0 o)) (hS : va_S A0 s.heap H locs) (hl : lv_has ls 9 [(0, .ref b), (1, .ref (Z.ca 0)), (2, .ref (Z.ma 0)), (3, .ref Z.q), (4, .int i)])  (hcl : cells + 8 ≤ room_1.cells ∧ slots + 48 ≤ room_1.slots) (KK : LKK p l e s m args below meth c (cells + 8) (slots + 48) Q A0 dC dI Z b i) : W p l e room_1 s m args below meth c H locs cells slots Q (F0 m 1009 ls []) := by
  obtain ⟨hc1, hc2⟩ := hcl
  obtain ⟨T, er, nd, tp, fd, ee, oo, tt, rr, sw, hh, tx, v, th, g, a, u, sl, kp, mm, P0, L0, sn, pv, r0, gn, vd, x1, x2, x3, x4, x5, x6, x7, txt, txd, bb, rfl, rfl, hTP, hDD, hST, hOF⟩ := hR
  have hRE := hST.1
  have hG := hST.2.1
  obtain ⟨w, e1, e2⟩ := (t_looks0 fu hf th hRE hG).2.2.2.2.2.1
  refine lv_aload_n C.hx C.hb dL_law_1009 rfl (lv_at hl 1 rfl) ?_
  refine lqRi (z := w) (c0 := ⟨nI T, er, nI nd, tp, fd, ee, oo, tt, rr, sw, hh, tx⟩) (m0 := ⟨v, nI T, er, th, nW g, nW a, nW u, nW sl, nW kp, nI mm, nW P0, nW L0, sn, pv, nW r0, gn, vd, nI nd, x1, x2, x3, x4, x5, x6, x7, txt, txd⟩) (o := o) (As := []) (rest := []) C (c_X7_codeCount l dC dI Z.kI Z.kE Z.ca Z.a Z.b Z.oa Z.ob Z.ra Z.sa Z.ha Z.ux Z.uy tx (nI T) er (nI nd) tp fd ee oo tt rr sw hh _ e1) gL_law_X7_codeCount qX7_codeCount rfl ⟨(Nat.le_of_ble_eq_true rfl), (Nat.le_of_ble_eq_true rfl)⟩ ⟨rfl, rfl⟩ hP hD hS hl.1 rfl rfl (Nat.le_of_ble_eq_true rfl) dL_law_1010 ⟨by omega, by omega⟩ (fun H locs hP hD hS => ?_)
  refine lv_aload_n C.hx C.hb dL_law_1013 rfl (lv_at hl 2 rfl) ?_
  refine lqMi (z := w) (c0 := ⟨nI T, er, nI nd, tp, fd, ee, oo, tt, rr, sw, hh, tx⟩) (m0 := ⟨v, nI T, er, th, nW g, nW a, nW u, nW sl, nW kp, nI mm, nW P0, nW L0, sn, pv, nW r0, gn, vd, nI nd, x1, x2, x3, x4, x5, x6, x7, txt, txd⟩) (m1 := ⟨v, nI T, er, nI 0, nW g, nW a, nW u, nW sl, nW kp, nI mm, nW P0, nW L0, sn, pv, nW r0, gn, vd, nI nd, x1, x2, x3, x4, x5, x6, x7, txt, txd⟩) (o := o) (As := []) (rest := [.int w]) C (c_X8_codeCount l dC dI Z.kI Z.kB Z.kZ Z.ma v (nI T) er th (nW g) (nW a) (nW u) (nW sl) (nW kp) (nI mm) (nW P0) (nW L0) sn pv (nW r0) gn vd (nI nd) x1 x2 x3 x4 x5 x6 x7 txt txd H.size _ e2) gL_law_X8_codeCount qX8_codeCount rfl ⟨(Nat.le_of_ble_eq_true rfl), (Nat.le_of_ble_eq_true rfl)⟩ ⟨rfl, rfl⟩ hP hD hS hl.1 rfl rfl (Nat.le_of_ble_eq_true rfl) dL_law_1014 ⟨by omega, by omega⟩ (fun H locs hP hD hS => ?_)
  refine lv_icmp_eq (tgt := 2318) C.hx C.hb dL_law_1017 (by decide) (fun _ => ?_) (fun h9 => absurd (by first | rfl | decide) h9)
  refine W.widen (k := cells + 8) (n := slots + 48) (by omega) (by omega) ?_
  exact KK ⟨nI T, er, nI nd, tp, fd, ee, oo, tt, rr, sw, hh, tx⟩ ⟨v, nI T, er, nI 0, nW g, nW a, nW u, nW sl, nW kp, nI mm, nW P0, nW L0, sn, pv, nW r0, gn, vd, nI nd, x1, x2, x3, x4, x5, x6, x7, txt, txd⟩ o H locs ls ⟨T, er, nd, tp, fd, ee, oo, tt, rr, sw, hh, tx, v, nI 0, g, a, u, sl, kp, mm, P0, L0, sn, pv, r0, gn, vd, x1, x2, x3, x4, x5, x6, x7, txt, txd, bb, rfl, rfl, hTP, hDD, hST, hOF⟩ hP hD hS (lv_sub hl [0, 1, 2, 3, 4] rfl)
set_option maxHeartbeats 4000000 in
set_option maxRecDepth 100000 in
theorem lc_21 (C : LC p l s m args c A0 K dC dI Z b L xs) (hf : 20000 ≤ fu) (hR : REL c0 m0) (hP : va_P (dC, dI) vwCl (LW Z c0 m0 o) H) (hD : va_D A0 (LW Z c0 m0 o)) (hS : va_S A0 s.heap H locs) (hl : lv_has ls 9 [(0, .ref b), (1, .ref (Z.ca 0)), (2, .ref (Z.ma 0)), (3, .ref Z.q), (4, .int i)])  (hcl : cells + 8 ≤ room_1.cells ∧ slots + 48 ≤ room_1.slots) (KK : LKK p l e s m args below meth c (cells + 8) (slots + 48) Q A0 dC dI Z b i) : W p l e room_1 s m args below meth c H locs cells slots Q (F0 m 1022 ls []) := by
  obtain ⟨hc1, hc2⟩ := hcl
  obtain ⟨T, er, nd, tp, fd, ee, oo, tt, rr, sw, hh, tx, v, th, g, a, u, sl, kp, mm, P0, L0, sn, pv, r0, gn, vd, x1, x2, x3, x4, x5, x6, x7, txt, txd, bb, rfl, rfl, hTP, hDD, hST, hOF⟩ := hR
  have hRE := hST.1
  have hG := hST.2.1
  obtain ⟨w, e1, e2⟩ := (t_looks1 fu hf th hRE hG).2.1
  refine lv_aload_n C.hx C.hb dL_law_1022 rfl (lv_at hl 1 rfl) ?_
  refine lqRi (z := w) (c0 := ⟨nI T, er, nI nd, tp, fd, ee, oo, tt, rr, sw, hh, tx⟩) (m0 := ⟨v, nI T, er, th, nW g, nW a, nW u, nW sl, nW kp, nI mm, nW P0, nW L0, sn, pv, nW r0, gn, vd, nI nd, x1, x2, x3, x4, x5, x6, x7, txt, txd⟩) (o := o) (As := []) (rest := []) C (c_X7_capacity l dC dI Z.kI Z.kE Z.ca Z.a Z.b Z.oa Z.ob Z.ra Z.sa Z.ha Z.ux Z.uy tx (nI T) er (nI nd) tp fd ee oo tt rr sw hh _ e1) gL_law_X7_capacity qX7_capacity rfl ⟨(Nat.le_of_ble_eq_true rfl), (Nat.le_of_ble_eq_true rfl)⟩ ⟨rfl, rfl⟩ hP hD hS hl.1 rfl rfl (Nat.le_of_ble_eq_true rfl) dL_law_1023 ⟨by omega, by omega⟩ (fun H locs hP hD hS => ?_)
  refine lv_aload_n C.hx C.hb dL_law_1026 rfl (lv_at hl 2 rfl) ?_
  refine lqMi (z := w) (c0 := ⟨nI T, er, nI nd, tp, fd, ee, oo, tt, rr, sw, hh, tx⟩) (m0 := ⟨v, nI T, er, th, nW g, nW a, nW u, nW sl, nW kp, nI mm, nW P0, nW L0, sn, pv, nW r0, gn, vd, nI nd, x1, x2, x3, x4, x5, x6, x7, txt, txd⟩) (m1 := ⟨v, nI T, er, nI 0, nW g, nW a, nW u, nW sl, nW kp, nI mm, nW P0, nW L0, sn, pv, nW r0, gn, vd, nI nd, x1, x2, x3, x4, x5, x6, x7, txt, txd⟩) (o := o) (As := []) (rest := [.int w]) C (c_X8_capacity l dC dI Z.kI Z.kB Z.kZ Z.ma v (nI T) er th (nW g) (nW a) (nW u) (nW sl) (nW kp) (nI mm) (nW P0) (nW L0) sn pv (nW r0) gn vd (nI nd) x1 x2 x3 x4 x5 x6 x7 txt txd H.size _ e2) gL_law_X8_capacity qX8_capacity rfl ⟨(Nat.le_of_ble_eq_true rfl), (Nat.le_of_ble_eq_true rfl)⟩ ⟨rfl, rfl⟩ hP hD hS hl.1 rfl rfl (Nat.le_of_ble_eq_true rfl) dL_law_1027 ⟨by omega, by omega⟩ (fun H locs hP hD hS => ?_)
  refine lv_icmp_eq (tgt := 2318) C.hx C.hb dL_law_1030 (by decide) (fun _ => ?_) (fun h9 => absurd (by first | rfl | decide) h9)
  refine W.widen (k := cells + 8) (n := slots + 48) (by omega) (by omega) ?_
  exact KK ⟨nI T, er, nI nd, tp, fd, ee, oo, tt, rr, sw, hh, tx⟩ ⟨v, nI T, er, nI 0, nW g, nW a, nW u, nW sl, nW kp, nI mm, nW P0, nW L0, sn, pv, nW r0, gn, vd, nI nd, x1, x2, x3, x4, x5, x6, x7, txt, txd⟩ o H locs ls ⟨T, er, nd, tp, fd, ee, oo, tt, rr, sw, hh, tx, v, nI 0, g, a, u, sl, kp, mm, P0, L0, sn, pv, r0, gn, vd, x1, x2, x3, x4, x5, x6, x7, txt, txd, bb, rfl, rfl, hTP, hDD, hST, hOF⟩ hP hD hS (lv_sub hl [0, 1, 2, 3, 4] rfl)
set_option maxHeartbeats 4000000 in
set_option maxRecDepth 100000 in
theorem lc_22 (C : LC p l s m args c A0 K dC dI Z b L xs) (hf : 20000 ≤ fu) (hR : REL c0 m0) (hP : va_P (dC, dI) vwCl (LW Z c0 m0 o) H) (hD : va_D A0 (LW Z c0 m0 o)) (hS : va_S A0 s.heap H locs) (hl : lv_has ls 9 [(0, .ref b), (1, .ref (Z.ca 0)), (2, .ref (Z.ma 0)), (3, .ref Z.q), (4, .int i)])  (hcl : cells + 8 ≤ room_1.cells ∧ slots + 48 ≤ room_1.slots) (KK : LKK p l e s m args below meth c (cells + 8) (slots + 48) Q A0 dC dI Z b i) : W p l e room_1 s m args below meth c H locs cells slots Q (F0 m 1035 ls []) := by
  obtain ⟨hc1, hc2⟩ := hcl
  obtain ⟨T, er, nd, tp, fd, ee, oo, tt, rr, sw, hh, tx, v, th, g, a, u, sl, kp, mm, P0, L0, sn, pv, r0, gn, vd, x1, x2, x3, x4, x5, x6, x7, txt, txd, bb, rfl, rfl, hTP, hDD, hST, hOF⟩ := hR
  have hRE := hST.1
  have hG := hST.2.1
  obtain ⟨w, e1, e2⟩ := (t_looks1 fu hf th hRE hG).2.2.2.2.2.2.2
  refine lv_aload_n C.hx C.hb dL_law_1035 rfl (lv_at hl 1 rfl) ?_
  refine lqRi (z := w) (c0 := ⟨nI T, er, nI nd, tp, fd, ee, oo, tt, rr, sw, hh, tx⟩) (m0 := ⟨v, nI T, er, th, nW g, nW a, nW u, nW sl, nW kp, nI mm, nW P0, nW L0, sn, pv, nW r0, gn, vd, nI nd, x1, x2, x3, x4, x5, x6, x7, txt, txd⟩) (o := o) (As := []) (rest := []) C (c_X7_isFull l dC dI Z.kI Z.kE Z.ca Z.a Z.b Z.oa Z.ob Z.ra Z.sa Z.ha Z.ux Z.uy tx (nI T) er (nI nd) tp fd ee oo tt rr sw hh _ e1) gL_law_X7_isFull qX7_isFull rfl ⟨(Nat.le_of_ble_eq_true rfl), (Nat.le_of_ble_eq_true rfl)⟩ ⟨rfl, rfl⟩ hP hD hS hl.1 rfl rfl (Nat.le_of_ble_eq_true rfl) dL_law_1036 ⟨by omega, by omega⟩ (fun H locs hP hD hS => ?_)
  refine lv_aload_n C.hx C.hb dL_law_1039 rfl (lv_at hl 2 rfl) ?_
  refine lqMi (z := w) (c0 := ⟨nI T, er, nI nd, tp, fd, ee, oo, tt, rr, sw, hh, tx⟩) (m0 := ⟨v, nI T, er, th, nW g, nW a, nW u, nW sl, nW kp, nI mm, nW P0, nW L0, sn, pv, nW r0, gn, vd, nI nd, x1, x2, x3, x4, x5, x6, x7, txt, txd⟩) (m1 := ⟨v, nI T, er, nI 0, nW g, nW a, nW u, nW sl, nW kp, nI mm, nW P0, nW L0, sn, pv, nW r0, gn, vd, nI nd, x1, x2, x3, x4, x5, x6, x7, txt, txd⟩) (o := o) (As := []) (rest := [.int w]) C (c_X8_isFull l dC dI Z.kI Z.kB Z.kZ Z.ma v (nI T) er th (nW g) (nW a) (nW u) (nW sl) (nW kp) (nI mm) (nW P0) (nW L0) sn pv (nW r0) gn vd (nI nd) x1 x2 x3 x4 x5 x6 x7 txt txd H.size _ e2) gL_law_X8_isFull qX8_isFull rfl ⟨(Nat.le_of_ble_eq_true rfl), (Nat.le_of_ble_eq_true rfl)⟩ ⟨rfl, rfl⟩ hP hD hS hl.1 rfl rfl (Nat.le_of_ble_eq_true rfl) dL_law_1040 ⟨by omega, by omega⟩ (fun H locs hP hD hS => ?_)
  refine lv_icmp_eq (tgt := 2318) C.hx C.hb dL_law_1043 (by decide) (fun _ => ?_) (fun h9 => absurd (by first | rfl | decide) h9)
  refine W.widen (k := cells + 8) (n := slots + 48) (by omega) (by omega) ?_
  exact KK ⟨nI T, er, nI nd, tp, fd, ee, oo, tt, rr, sw, hh, tx⟩ ⟨v, nI T, er, nI 0, nW g, nW a, nW u, nW sl, nW kp, nI mm, nW P0, nW L0, sn, pv, nW r0, gn, vd, nI nd, x1, x2, x3, x4, x5, x6, x7, txt, txd⟩ o H locs ls ⟨T, er, nd, tp, fd, ee, oo, tt, rr, sw, hh, tx, v, nI 0, g, a, u, sl, kp, mm, P0, L0, sn, pv, r0, gn, vd, x1, x2, x3, x4, x5, x6, x7, txt, txd, bb, rfl, rfl, hTP, hDD, hST, hOF⟩ hP hD hS (lv_sub hl [0, 1, 2, 3, 4] rfl)
set_option maxHeartbeats 4000000 in
set_option maxRecDepth 100000 in
theorem lc_23 (C : LC p l s m args c A0 K dC dI Z b L xs) (hf : 20000 ≤ fu) (hR : REL c0 m0) (hP : va_P (dC, dI) vwCl (LW Z c0 m0 o) H) (hD : va_D A0 (LW Z c0 m0 o)) (hS : va_S A0 s.heap H locs) (hl : lv_has ls 9 [(0, .ref b), (1, .ref (Z.ca 0)), (2, .ref (Z.ma 0)), (3, .ref Z.q), (4, .int i)])  (hcl : cells + 8 ≤ room_1.cells ∧ slots + 48 ≤ room_1.slots) (KK : LKK p l e s m args below meth c (cells + 8) (slots + 48) Q A0 dC dI Z b i) : W p l e room_1 s m args below meth c H locs cells slots Q (F0 m 1048 ls []) := by
  obtain ⟨hc1, hc2⟩ := hcl
  obtain ⟨T, er, nd, tp, fd, ee, oo, tt, rr, sw, hh, tx, v, th, g, a, u, sl, kp, mm, P0, L0, sn, pv, r0, gn, vd, x1, x2, x3, x4, x5, x6, x7, txt, txd, bb, rfl, rfl, hTP, hDD, hST, hOF⟩ := hR
  have hRE := hST.1
  have hG := hST.2.1
  obtain ⟨w, e1, e2⟩ := (t_looks1 fu hf th hRE hG).2.2.1
  refine lv_aload_n C.hx C.hb dL_law_1048 rfl (lv_at hl 1 rfl) ?_
  refine lqRi (z := w) (c0 := ⟨nI T, er, nI nd, tp, fd, ee, oo, tt, rr, sw, hh, tx⟩) (m0 := ⟨v, nI T, er, th, nW g, nW a, nW u, nW sl, nW kp, nI mm, nW P0, nW L0, sn, pv, nW r0, gn, vd, nI nd, x1, x2, x3, x4, x5, x6, x7, txt, txd⟩) (o := o) (As := []) (rest := []) C (c_X7_codeWidth fu l dC dI Z.kI Z.kE Z.ca Z.a Z.b Z.oa Z.ob Z.ra Z.sa Z.ha Z.ux Z.uy tx (nI T) er (nI nd) tp fd ee oo tt rr sw hh _ e1) gL_law_X7_codeWidth qX7_codeWidth rfl ⟨(Nat.le_of_ble_eq_true rfl), (Nat.le_of_ble_eq_true rfl)⟩ ⟨rfl, rfl⟩ hP hD hS hl.1 rfl rfl (Nat.le_of_ble_eq_true rfl) dL_law_1049 ⟨by omega, by omega⟩ (fun H locs hP hD hS => ?_)
  refine lv_aload_n C.hx C.hb dL_law_1052 rfl (lv_at hl 2 rfl) ?_
  refine lqMi (z := w) (c0 := ⟨nI T, er, nI nd, tp, fd, ee, oo, tt, rr, sw, hh, tx⟩) (m0 := ⟨v, nI T, er, th, nW g, nW a, nW u, nW sl, nW kp, nI mm, nW P0, nW L0, sn, pv, nW r0, gn, vd, nI nd, x1, x2, x3, x4, x5, x6, x7, txt, txd⟩) (m1 := ⟨v, nI T, er, nI 0, nW g, nW a, nW u, nW sl, nW kp, nI mm, nW P0, nW L0, sn, pv, nW r0, gn, vd, nI nd, x1, x2, x3, x4, x5, x6, x7, txt, txd⟩) (o := o) (As := []) (rest := [.int w]) C (c_X8_codeWidth fu l dC dI Z.kI Z.kB Z.kZ Z.ma v (nI T) er th (nW g) (nW a) (nW u) (nW sl) (nW kp) (nI mm) (nW P0) (nW L0) sn pv (nW r0) gn vd (nI nd) x1 x2 x3 x4 x5 x6 x7 txt txd H.size _ e2) gL_law_X8_codeWidth qX8_codeWidth rfl ⟨(Nat.le_of_ble_eq_true rfl), (Nat.le_of_ble_eq_true rfl)⟩ ⟨rfl, rfl⟩ hP hD hS hl.1 rfl rfl (Nat.le_of_ble_eq_true rfl) dL_law_1053 ⟨by omega, by omega⟩ (fun H locs hP hD hS => ?_)
  refine lv_icmp_eq (tgt := 2318) C.hx C.hb dL_law_1056 (by decide) (fun _ => ?_) (fun h9 => absurd (by first | rfl | decide) h9)
  refine W.widen (k := cells + 8) (n := slots + 48) (by omega) (by omega) ?_
  exact KK ⟨nI T, er, nI nd, tp, fd, ee, oo, tt, rr, sw, hh, tx⟩ ⟨v, nI T, er, nI 0, nW g, nW a, nW u, nW sl, nW kp, nI mm, nW P0, nW L0, sn, pv, nW r0, gn, vd, nI nd, x1, x2, x3, x4, x5, x6, x7, txt, txd⟩ o H locs ls ⟨T, er, nd, tp, fd, ee, oo, tt, rr, sw, hh, tx, v, nI 0, g, a, u, sl, kp, mm, P0, L0, sn, pv, r0, gn, vd, x1, x2, x3, x4, x5, x6, x7, txt, txd, bb, rfl, rfl, hTP, hDD, hST, hOF⟩ hP hD hS (lv_sub hl [0, 1, 2, 3, 4] rfl)
set_option maxHeartbeats 4000000 in
set_option maxRecDepth 100000 in
theorem lc_24 (C : LC p l s m args c A0 K dC dI Z b L xs) (hf : 20000 ≤ fu) (hR : REL c0 m0) (hP : va_P (dC, dI) vwCl (LW Z c0 m0 o) H) (hD : va_D A0 (LW Z c0 m0 o)) (hS : va_S A0 s.heap H locs) (hl : lv_has ls 9 [(0, .ref b), (1, .ref (Z.ca 0)), (2, .ref (Z.ma 0)), (3, .ref Z.q), (4, .int i)]) (hi1 : vp_in (i + 1) L) (hcl : cells + 8 ≤ room_1.cells ∧ slots + 48 ≤ room_1.slots) (KK : LKK p l e s m args below meth c (cells + 8) (slots + 48) Q A0 dC dI Z b i) : W p l e room_1 s m args below meth c H locs cells slots Q (F0 m 1061 ls []) := by
  obtain ⟨hc1, hc2⟩ := hcl
  obtain ⟨T, er, nd, tp, fd, ee, oo, tt, rr, sw, hh, tx, v, th, g, a, u, sl, kp, mm, P0, L0, sn, pv, r0, gn, vd, x1, x2, x3, x4, x5, x6, x7, txt, txd, bb, rfl, rfl, hTP, hDD, hST, hOF⟩ := hR
  have hRE := hST.1
  have hG := hST.2.1
  rcases t_phraseLength fu hf th hRE hG tp fd oo tt rr sw hh (xs (i + 1).toNatClampNeg) with ⟨w, e1, e2⟩ | ⟨e1, e2⟩
  · refine lv_aload_n C.hx C.hb dL_law_1061 rfl (lv_at hl 1 rfl) ?_
    refine lv_aload_n C.hx C.hb dL_law_1062 rfl (lv_at hl 0 rfl) ?_
    refine lv_iload C.hx C.hb dL_law_1063 (lv_at hl 4 rfl) ?_
    refine lv_iconst (v := 1) C.hx C.hb dL_law_1065 (by decide) ?_
    refine lv_iadd C.hx C.hb dL_law_1066 ?_
    refine lq_x C hS hi1 dL_law_1067 ?_
    refine lv_aload_n C.hx C.hb dL_law_1068 rfl (lv_at hl 3 rfl) ?_
    refine lqL (r := 0) (c0 := ⟨nI T, er, nI nd, tp, fd, ee, oo, tt, rr, sw, hh, tx⟩) (c1 := ⟨nI T, er, nI nd, tp, fd, ee, oo, tt, rr, sw, hh, tx⟩) (m0 := ⟨v, nI T, er, th, nW g, nW a, nW u, nW sl, nW kp, nI mm, nW P0, nW L0, sn, pv, nW r0, gn, vd, nI nd, x1, x2, x3, x4, x5, x6, x7, txt, txd⟩) (o := o) (o1 := (vp_updL o 0 w.toInt64)) (As := [.ref (Z.ca 0), .int (xs (i + 1).toNatClampNeg), .ref Z.q]) (rest := []) C (c_L_phraseLength l C.hl0 dC dI K Z.kI Z.kE Z.kL Z.ca Z.a Z.b Z.oa Z.ob Z.ra Z.sa Z.ha Z.ux Z.uy tx (nI T) er (nI nd) tp fd ee oo tt rr sw hh (xs (i + 1).toNatClampNeg) Z.q o H.size _ e1 0 (vp_updL o 0 w.toInt64) (Or.inl ⟨w, rfl, rfl, rfl⟩)) gL_law_L_phraseLength qL_phraseLength rfl ⟨(Nat.le_of_ble_eq_true rfl), (Nat.le_of_ble_eq_true rfl)⟩ ⟨rfl, rfl⟩ hP hD hS hl.1 rfl rfl (Nat.le_of_ble_eq_true rfl) dL_law_1069 ⟨by omega, by omega⟩ (fun H locs hP hD hS => ?_)
    refine W.widen (k := cells + 8) (n := slots + 48) (by omega) (by omega) ?_
    refine lv_istore (lv' := [(5, .int 0), (0, .ref b), (1, .ref (Z.ca 0)), (2, .ref (Z.ma 0)), (3, .ref Z.q), (4, .int i)]) C.hx C.hb dL_law_1072 hl (by decide) rfl (fun ls hl => ?_)
    refine lv_aload_n C.hx C.hb dL_law_1074 rfl (lv_at hl 3 rfl) ?_
    refine lv_aload_n C.hx C.hb dL_law_1075 rfl (lv_at hl 1 rfl) ?_
    refine lv_iload C.hx C.hb dL_law_1076 (lv_at hl 5 rfl) ?_
    refine lv_iconst (v := 1) C.hx C.hb dL_law_1078 (by decide) ?_
    refine lv_iadd C.hx C.hb dL_law_1079 ?_
    refine lq_x C hS hi1 dL_law_1080 ?_
    refine lqMi (z := w) (c0 := ⟨nI T, er, nI nd, tp, fd, ee, oo, tt, rr, sw, hh, tx⟩) (m0 := ⟨v, nI T, er, th, nW g, nW a, nW u, nW sl, nW kp, nI mm, nW P0, nW L0, sn, pv, nW r0, gn, vd, nI nd, x1, x2, x3, x4, x5, x6, x7, txt, txd⟩) (m1 := ⟨v, nI T, er, nI 0, nW g, nW a, nW u, nW sl, nW kp, nI mm, nW P0, nW L0, sn, pv, nW r0, gn, vd, nI nd, x1, x2, x3, x4, x5, x6, x7, txt, txd⟩) (o := (vp_updL o 0 w.toInt64)) (As := [.int (xs (i + 1).toNatClampNeg)]) (rest := []) C (c_X8_phraseLength fu l dC dI Z.kI Z.kB Z.kZ Z.ma v (nI T) er th (nW g) (nW a) (nW u) (nW sl) (nW kp) (nI mm) (nW P0) (nW L0) sn pv (nW r0) gn vd (nI nd) x1 x2 x3 x4 x5 x6 x7 txt txd (xs (i + 1).toNatClampNeg) H.size _ e2) gL_law_X8_phraseLength qX8_phraseLength rfl ⟨(Nat.le_of_ble_eq_true rfl), (Nat.le_of_ble_eq_true rfl)⟩ ⟨rfl, rfl⟩ hP hD hS hl.1 rfl rfl (Nat.le_of_ble_eq_true rfl) dL_law_1081 ⟨by omega, by omega⟩ (fun H locs hP hD hS => ?_)
    refine lv_istore (lv' := [(6, .int w), (5, .int 0), (0, .ref b), (1, .ref (Z.ca 0)), (2, .ref (Z.ma 0)), (3, .ref Z.q), (4, .int i)]) C.hx C.hb dL_law_1084 hl (by decide) rfl (fun ls hl => ?_)
    refine lv_aload_n C.hx C.hb dL_law_1086 rfl (lv_at hl 4 rfl) ?_
    refine lqMo (z := nI 0) (c0 := ⟨nI T, er, nI nd, tp, fd, ee, oo, tt, rr, sw, hh, tx⟩) (m0 := ⟨v, nI T, er, nI 0, nW g, nW a, nW u, nW sl, nW kp, nI mm, nW P0, nW L0, sn, pv, nW r0, gn, vd, nI nd, x1, x2, x3, x4, x5, x6, x7, txt, txd⟩) (o := (vp_updL o 0 w.toInt64)) (As := []) (rest := []) C (c_X8_thrown l dC dI Z.kI Z.kB Z.kZ Z.ma v (nI T) er (nI 0) (nW g) (nW a) (nW u) (nW sl) (nW kp) (nI mm) (nW P0) (nW L0) sn pv (nW r0) gn vd (nI nd) x1 x2 x3 x4 x5 x6 x7 txt txd (nI 0) rfl) gL_law_X8_thrown qX8_thrown rfl ⟨(Nat.le_of_ble_eq_true rfl), (Nat.le_of_ble_eq_true rfl)⟩ ⟨rfl, rfl⟩ hP hD hS hl.1 rfl rfl (Nat.le_of_ble_eq_true rfl) dL_law_1087 ⟨by omega, by omega⟩ (fun H locs hP hD hS => ?_)
    refine lv_iload C.hx C.hb dL_law_1090 (lv_at hl 1 rfl) ?_
    refine lv_icmp_eq (tgt := 1097) C.hx C.hb dL_law_1092 (by decide) (fun _ => ?_) (fun h9 => absurd (by first | rfl | decide) h9)
    refine lv_iload C.hx C.hb dL_law_1097 (lv_at hl 1 rfl) ?_
    refine lv_if_ne (tgt := 1114) C.hx C.hb dL_law_1099 (by decide) (fun h9 => absurd rfl h9) (fun _ => ?_)
    refine lv_aload_n C.hx C.hb dL_law_1102 rfl (lv_at hl 5 rfl) ?_
    refine lv_iconst (v := 0) C.hx C.hb dL_law_1103 (by decide) ?_
    refine lq_o C hP dL_law_1104 ?_
    refine lv_iload C.hx C.hb dL_law_1105 (lv_at hl 0 rfl) ?_
    refine lv_i2l (v := w.toInt64) C.hx C.hb dL_law_1107 rfl ?_
    refine W.lcmp C.hx C.hb dL_law_1108 ?_
    refine lv_if_eq (tgt := 1114) C.hx C.hb dL_law_1109 (by decide) (fun _ => ?_) (fun h9 => absurd (cmp_self _) h9)
    refine lv_goto (tgt := 2318) C.hx C.hb dL_law_1114 (by decide) ?_
    exact KK ⟨nI T, er, nI nd, tp, fd, ee, oo, tt, rr, sw, hh, tx⟩ ⟨v, nI T, er, nI 0, nW g, nW a, nW u, nW sl, nW kp, nI mm, nW P0, nW L0, sn, pv, nW r0, gn, vd, nI nd, x1, x2, x3, x4, x5, x6, x7, txt, txd⟩ (vp_updL o 0 w.toInt64) H locs ls ⟨T, er, nd, tp, fd, ee, oo, tt, rr, sw, hh, tx, v, nI 0, g, a, u, sl, kp, mm, P0, L0, sn, pv, r0, gn, vd, x1, x2, x3, x4, x5, x6, x7, txt, txd, bb, rfl, rfl, hTP, hDD, hST, hOF⟩ hP hD hS (lv_sub hl [2, 3, 4, 5, 6] rfl)
  · refine lv_aload_n C.hx C.hb dL_law_1061 rfl (lv_at hl 1 rfl) ?_
    refine lv_aload_n C.hx C.hb dL_law_1062 rfl (lv_at hl 0 rfl) ?_
    refine lv_iload C.hx C.hb dL_law_1063 (lv_at hl 4 rfl) ?_
    refine lv_iconst (v := 1) C.hx C.hb dL_law_1065 (by decide) ?_
    refine lv_iadd C.hx C.hb dL_law_1066 ?_
    refine lq_x C hS hi1 dL_law_1067 ?_
    refine lv_aload_n C.hx C.hb dL_law_1068 rfl (lv_at hl 3 rfl) ?_
    refine lqL (r := 1) (c0 := ⟨nI T, er, nI nd, tp, fd, ee, oo, tt, rr, sw, hh, tx⟩) (c1 := ⟨nI T, er, nI nd, tp, fd, ee, oo, tt, rr, sw, hh, tx⟩) (m0 := ⟨v, nI T, er, th, nW g, nW a, nW u, nW sl, nW kp, nI mm, nW P0, nW L0, sn, pv, nW r0, gn, vd, nI nd, x1, x2, x3, x4, x5, x6, x7, txt, txd⟩) (o := o) (o1 := o) (As := [.ref (Z.ca 0), .int (xs (i + 1).toNatClampNeg), .ref Z.q]) (rest := []) C (c_L_phraseLength l C.hl0 dC dI K Z.kI Z.kE Z.kL Z.ca Z.a Z.b Z.oa Z.ob Z.ra Z.sa Z.ha Z.ux Z.uy tx (nI T) er (nI nd) tp fd ee oo tt rr sw hh (xs (i + 1).toNatClampNeg) Z.q o H.size _ e1 1 o (Or.inr ⟨rfl, rfl, rfl⟩)) gL_law_L_phraseLength qL_phraseLength rfl ⟨(Nat.le_of_ble_eq_true rfl), (Nat.le_of_ble_eq_true rfl)⟩ ⟨rfl, rfl⟩ hP hD hS hl.1 rfl rfl (Nat.le_of_ble_eq_true rfl) dL_law_1069 ⟨by omega, by omega⟩ (fun H locs hP hD hS => ?_)
    refine W.widen (k := cells + 8) (n := slots + 48) (by omega) (by omega) ?_
    refine lv_istore (lv' := [(5, .int 1), (0, .ref b), (1, .ref (Z.ca 0)), (2, .ref (Z.ma 0)), (3, .ref Z.q), (4, .int i)]) C.hx C.hb dL_law_1072 hl (by decide) rfl (fun ls hl => ?_)
    refine lv_aload_n C.hx C.hb dL_law_1074 rfl (lv_at hl 3 rfl) ?_
    refine lv_aload_n C.hx C.hb dL_law_1075 rfl (lv_at hl 1 rfl) ?_
    refine lv_iload C.hx C.hb dL_law_1076 (lv_at hl 5 rfl) ?_
    refine lv_iconst (v := 1) C.hx C.hb dL_law_1078 (by decide) ?_
    refine lv_iadd C.hx C.hb dL_law_1079 ?_
    refine lq_x C hS hi1 dL_law_1080 ?_
    refine lqMi (z := nI 0) (c0 := ⟨nI T, er, nI nd, tp, fd, ee, oo, tt, rr, sw, hh, tx⟩) (m0 := ⟨v, nI T, er, th, nW g, nW a, nW u, nW sl, nW kp, nI mm, nW P0, nW L0, sn, pv, nW r0, gn, vd, nI nd, x1, x2, x3, x4, x5, x6, x7, txt, txd⟩) (m1 := ⟨v, nI T, er, nI 1, nW g, nW a, nW u, nW sl, nW kp, nI mm, nW P0, nW L0, sn, pv, nW r0, gn, vd, nI nd, x1, x2, x3, x4, x5, x6, x7, txt, txd⟩) (o := o) (As := [.int (xs (i + 1).toNatClampNeg)]) (rest := []) C (c_X8_phraseLength fu l dC dI Z.kI Z.kB Z.kZ Z.ma v (nI T) er th (nW g) (nW a) (nW u) (nW sl) (nW kp) (nI mm) (nW P0) (nW L0) sn pv (nW r0) gn vd (nI nd) x1 x2 x3 x4 x5 x6 x7 txt txd (xs (i + 1).toNatClampNeg) H.size _ e2) gL_law_X8_phraseLength qX8_phraseLength rfl ⟨(Nat.le_of_ble_eq_true rfl), (Nat.le_of_ble_eq_true rfl)⟩ ⟨rfl, rfl⟩ hP hD hS hl.1 rfl rfl (Nat.le_of_ble_eq_true rfl) dL_law_1081 ⟨by omega, by omega⟩ (fun H locs hP hD hS => ?_)
    refine lv_istore (lv' := [(6, .int (nI 0)), (5, .int 1), (0, .ref b), (1, .ref (Z.ca 0)), (2, .ref (Z.ma 0)), (3, .ref Z.q), (4, .int i)]) C.hx C.hb dL_law_1084 hl (by decide) rfl (fun ls hl => ?_)
    refine lv_aload_n C.hx C.hb dL_law_1086 rfl (lv_at hl 4 rfl) ?_
    refine lqMo (z := nI 1) (c0 := ⟨nI T, er, nI nd, tp, fd, ee, oo, tt, rr, sw, hh, tx⟩) (m0 := ⟨v, nI T, er, nI 1, nW g, nW a, nW u, nW sl, nW kp, nI mm, nW P0, nW L0, sn, pv, nW r0, gn, vd, nI nd, x1, x2, x3, x4, x5, x6, x7, txt, txd⟩) (o := o) (As := []) (rest := []) C (c_X8_thrown l dC dI Z.kI Z.kB Z.kZ Z.ma v (nI T) er (nI 1) (nW g) (nW a) (nW u) (nW sl) (nW kp) (nI mm) (nW P0) (nW L0) sn pv (nW r0) gn vd (nI nd) x1 x2 x3 x4 x5 x6 x7 txt txd (nI 1) rfl) gL_law_X8_thrown qX8_thrown rfl ⟨(Nat.le_of_ble_eq_true rfl), (Nat.le_of_ble_eq_true rfl)⟩ ⟨rfl, rfl⟩ hP hD hS hl.1 rfl rfl (Nat.le_of_ble_eq_true rfl) dL_law_1087 ⟨by omega, by omega⟩ (fun H locs hP hD hS => ?_)
    refine lv_iload C.hx C.hb dL_law_1090 (lv_at hl 1 rfl) ?_
    refine lv_icmp_eq (tgt := 1097) C.hx C.hb dL_law_1092 (by decide) (fun _ => ?_) (fun h9 => absurd (by first | rfl | decide) h9)
    refine lv_iload C.hx C.hb dL_law_1097 (lv_at hl 1 rfl) ?_
    refine lv_if_ne (tgt := 1114) C.hx C.hb dL_law_1099 (by decide) (fun _ => ?_) (fun h9 => absurd h9 (by decide))
    refine lv_goto (tgt := 2318) C.hx C.hb dL_law_1114 (by decide) ?_
    exact KK ⟨nI T, er, nI nd, tp, fd, ee, oo, tt, rr, sw, hh, tx⟩ ⟨v, nI T, er, nI 1, nW g, nW a, nW u, nW sl, nW kp, nI mm, nW P0, nW L0, sn, pv, nW r0, gn, vd, nI nd, x1, x2, x3, x4, x5, x6, x7, txt, txd⟩ o H locs ls ⟨T, er, nd, tp, fd, ee, oo, tt, rr, sw, hh, tx, v, nI 1, g, a, u, sl, kp, mm, P0, L0, sn, pv, r0, gn, vd, x1, x2, x3, x4, x5, x6, x7, txt, txd, bb, rfl, rfl, hTP, hDD, hST, hOF⟩ hP hD hS (lv_sub hl [2, 3, 4, 5, 6] rfl)
set_option maxHeartbeats 4000000 in
set_option maxRecDepth 100000 in
theorem lc_25 (C : LC p l s m args c A0 K dC dI Z b L xs) (hf : 20000 ≤ fu) (hR : REL c0 m0) (hP : va_P (dC, dI) vwCl (LW Z c0 m0 o) H) (hD : va_D A0 (LW Z c0 m0 o)) (hS : va_S A0 s.heap H locs) (hl : lv_has ls 9 [(0, .ref b), (1, .ref (Z.ca 0)), (2, .ref (Z.ma 0)), (3, .ref Z.q), (4, .int i)]) (hi1 : vp_in (i + 1) L) (hi2 : vp_in (i + 2) L) (hcl : cells + 8 ≤ room_1.cells ∧ slots + 48 ≤ room_1.slots) (KK : LKK p l e s m args below meth c (cells + 8) (slots + 48) Q A0 dC dI Z b i) : W p l e room_1 s m args below meth c H locs cells slots Q (F0 m 1117 ls []) := by
  obtain ⟨hc1, hc2⟩ := hcl
  obtain ⟨T, er, nd, tp, fd, ee, oo, tt, rr, sw, hh, tx, v, th, g, a, u, sl, kp, mm, P0, L0, sn, pv, r0, gn, vd, x1, x2, x3, x4, x5, x6, x7, txt, txd, bb, rfl, rfl, hTP, hDD, hST, hOF⟩ := hR
  have hRE := hST.1
  have hG := hST.2.1
  rcases t_phraseSymbol fu hf th hRE hG tp fd oo tt rr sw hh (xs (i + 1).toNatClampNeg) (xs (i + 2).toNatClampNeg) with ⟨w, e1, e2⟩ | ⟨e1, e2⟩
  · refine lv_aload_n C.hx C.hb dL_law_1117 rfl (lv_at hl 1 rfl) ?_
    refine lv_aload_n C.hx C.hb dL_law_1118 rfl (lv_at hl 0 rfl) ?_
    refine lv_iload C.hx C.hb dL_law_1119 (lv_at hl 4 rfl) ?_
    refine lv_iconst (v := 1) C.hx C.hb dL_law_1121 (by decide) ?_
    refine lv_iadd C.hx C.hb dL_law_1122 ?_
    refine lq_x C hS hi1 dL_law_1123 ?_
    refine lv_aload_n C.hx C.hb dL_law_1124 rfl (lv_at hl 0 rfl) ?_
    refine lv_iload C.hx C.hb dL_law_1125 (lv_at hl 4 rfl) ?_
    refine lv_iconst (v := 2) C.hx C.hb dL_law_1127 (by decide) ?_
    refine lv_iadd C.hx C.hb dL_law_1128 ?_
    refine lq_x C hS hi2 dL_law_1129 ?_
    refine lv_aload_n C.hx C.hb dL_law_1130 rfl (lv_at hl 3 rfl) ?_
    refine lqL (r := 0) (c0 := ⟨nI T, er, nI nd, tp, fd, ee, oo, tt, rr, sw, hh, tx⟩) (c1 := ⟨nI T, er, nI nd, tp, fd, ee, oo, tt, rr, sw, hh, tx⟩) (m0 := ⟨v, nI T, er, th, nW g, nW a, nW u, nW sl, nW kp, nI mm, nW P0, nW L0, sn, pv, nW r0, gn, vd, nI nd, x1, x2, x3, x4, x5, x6, x7, txt, txd⟩) (o := o) (o1 := (vp_updL o 0 w.toInt64)) (As := [.ref (Z.ca 0), .int (xs (i + 1).toNatClampNeg), .int (xs (i + 2).toNatClampNeg), .ref Z.q]) (rest := []) C (c_L_phraseSymbol fu l C.hl0 dC dI K Z.kI Z.kE Z.kL Z.ca Z.a Z.b Z.oa Z.ob Z.ra Z.sa Z.ha Z.ux Z.uy tx (nI T) er (nI nd) tp fd ee oo tt rr sw hh (xs (i + 1).toNatClampNeg) (xs (i + 2).toNatClampNeg) Z.q o H.size _ e1 0 (vp_updL o 0 w.toInt64) (Or.inl ⟨w, rfl, rfl, rfl⟩)) gL_law_L_phraseSymbol qL_phraseSymbol rfl ⟨(Nat.le_of_ble_eq_true rfl), (Nat.le_of_ble_eq_true rfl)⟩ ⟨rfl, rfl⟩ hP hD hS hl.1 rfl rfl (Nat.le_of_ble_eq_true rfl) dL_law_1131 ⟨by omega, by omega⟩ (fun H locs hP hD hS => ?_)
    refine W.widen (k := cells + 8) (n := slots + 48) (by omega) (by omega) ?_
    refine lv_istore (lv' := [(5, .int 0), (0, .ref b), (1, .ref (Z.ca 0)), (2, .ref (Z.ma 0)), (3, .ref Z.q), (4, .int i)]) C.hx C.hb dL_law_1134 hl (by decide) rfl (fun ls hl => ?_)
    refine lv_aload_n C.hx C.hb dL_law_1136 rfl (lv_at hl 3 rfl) ?_
    refine lv_aload_n C.hx C.hb dL_law_1137 rfl (lv_at hl 1 rfl) ?_
    refine lv_iload C.hx C.hb dL_law_1138 (lv_at hl 5 rfl) ?_
    refine lv_iconst (v := 1) C.hx C.hb dL_law_1140 (by decide) ?_
    refine lv_iadd C.hx C.hb dL_law_1141 ?_
    refine lq_x C hS hi1 dL_law_1142 ?_
    refine lv_aload_n C.hx C.hb dL_law_1143 rfl (lv_at hl 1 rfl) ?_
    refine lv_iload C.hx C.hb dL_law_1144 (lv_at hl 5 rfl) ?_
    refine lv_iconst (v := 2) C.hx C.hb dL_law_1146 (by decide) ?_
    refine lv_iadd C.hx C.hb dL_law_1147 ?_
    refine lq_x C hS hi2 dL_law_1148 ?_
    refine lqMi (z := w) (c0 := ⟨nI T, er, nI nd, tp, fd, ee, oo, tt, rr, sw, hh, tx⟩) (m0 := ⟨v, nI T, er, th, nW g, nW a, nW u, nW sl, nW kp, nI mm, nW P0, nW L0, sn, pv, nW r0, gn, vd, nI nd, x1, x2, x3, x4, x5, x6, x7, txt, txd⟩) (m1 := ⟨v, nI T, er, nI 0, nW g, nW a, nW u, nW sl, nW kp, nI mm, nW P0, nW L0, sn, pv, nW r0, gn, vd, nI nd, x1, x2, x3, x4, x5, x6, x7, txt, txd⟩) (o := (vp_updL o 0 w.toInt64)) (As := [.int (xs (i + 1).toNatClampNeg), .int (xs (i + 2).toNatClampNeg)]) (rest := []) C (c_X8_phraseSymbol fu l dC dI Z.kI Z.kB Z.kZ Z.ma v (nI T) er th (nW g) (nW a) (nW u) (nW sl) (nW kp) (nI mm) (nW P0) (nW L0) sn pv (nW r0) gn vd (nI nd) x1 x2 x3 x4 x5 x6 x7 txt txd (xs (i + 1).toNatClampNeg) (xs (i + 2).toNatClampNeg) H.size _ e2) gL_law_X8_phraseSymbol qX8_phraseSymbol rfl ⟨(Nat.le_of_ble_eq_true rfl), (Nat.le_of_ble_eq_true rfl)⟩ ⟨rfl, rfl⟩ hP hD hS hl.1 rfl rfl (Nat.le_of_ble_eq_true rfl) dL_law_1149 ⟨by omega, by omega⟩ (fun H locs hP hD hS => ?_)
    refine lv_istore (lv' := [(6, .int w), (5, .int 0), (0, .ref b), (1, .ref (Z.ca 0)), (2, .ref (Z.ma 0)), (3, .ref Z.q), (4, .int i)]) C.hx C.hb dL_law_1152 hl (by decide) rfl (fun ls hl => ?_)
    refine lv_aload_n C.hx C.hb dL_law_1154 rfl (lv_at hl 4 rfl) ?_
    refine lqMo (z := nI 0) (c0 := ⟨nI T, er, nI nd, tp, fd, ee, oo, tt, rr, sw, hh, tx⟩) (m0 := ⟨v, nI T, er, nI 0, nW g, nW a, nW u, nW sl, nW kp, nI mm, nW P0, nW L0, sn, pv, nW r0, gn, vd, nI nd, x1, x2, x3, x4, x5, x6, x7, txt, txd⟩) (o := (vp_updL o 0 w.toInt64)) (As := []) (rest := []) C (c_X8_thrown l dC dI Z.kI Z.kB Z.kZ Z.ma v (nI T) er (nI 0) (nW g) (nW a) (nW u) (nW sl) (nW kp) (nI mm) (nW P0) (nW L0) sn pv (nW r0) gn vd (nI nd) x1 x2 x3 x4 x5 x6 x7 txt txd (nI 0) rfl) gL_law_X8_thrown qX8_thrown rfl ⟨(Nat.le_of_ble_eq_true rfl), (Nat.le_of_ble_eq_true rfl)⟩ ⟨rfl, rfl⟩ hP hD hS hl.1 rfl rfl (Nat.le_of_ble_eq_true rfl) dL_law_1155 ⟨by omega, by omega⟩ (fun H locs hP hD hS => ?_)
    refine lv_iload C.hx C.hb dL_law_1158 (lv_at hl 1 rfl) ?_
    refine lv_icmp_eq (tgt := 1165) C.hx C.hb dL_law_1160 (by decide) (fun _ => ?_) (fun h9 => absurd (by first | rfl | decide) h9)
    refine lv_iload C.hx C.hb dL_law_1165 (lv_at hl 1 rfl) ?_
    refine lv_if_ne (tgt := 1182) C.hx C.hb dL_law_1167 (by decide) (fun h9 => absurd rfl h9) (fun _ => ?_)
    refine lv_aload_n C.hx C.hb dL_law_1170 rfl (lv_at hl 5 rfl) ?_
    refine lv_iconst (v := 0) C.hx C.hb dL_law_1171 (by decide) ?_
    refine lq_o C hP dL_law_1172 ?_
    refine lv_iload C.hx C.hb dL_law_1173 (lv_at hl 0 rfl) ?_
    refine lv_i2l (v := w.toInt64) C.hx C.hb dL_law_1175 rfl ?_
    refine W.lcmp C.hx C.hb dL_law_1176 ?_
    refine lv_if_eq (tgt := 1182) C.hx C.hb dL_law_1177 (by decide) (fun _ => ?_) (fun h9 => absurd (cmp_self _) h9)
    refine lv_goto (tgt := 2318) C.hx C.hb dL_law_1182 (by decide) ?_
    exact KK ⟨nI T, er, nI nd, tp, fd, ee, oo, tt, rr, sw, hh, tx⟩ ⟨v, nI T, er, nI 0, nW g, nW a, nW u, nW sl, nW kp, nI mm, nW P0, nW L0, sn, pv, nW r0, gn, vd, nI nd, x1, x2, x3, x4, x5, x6, x7, txt, txd⟩ (vp_updL o 0 w.toInt64) H locs ls ⟨T, er, nd, tp, fd, ee, oo, tt, rr, sw, hh, tx, v, nI 0, g, a, u, sl, kp, mm, P0, L0, sn, pv, r0, gn, vd, x1, x2, x3, x4, x5, x6, x7, txt, txd, bb, rfl, rfl, hTP, hDD, hST, hOF⟩ hP hD hS (lv_sub hl [2, 3, 4, 5, 6] rfl)
  · refine lv_aload_n C.hx C.hb dL_law_1117 rfl (lv_at hl 1 rfl) ?_
    refine lv_aload_n C.hx C.hb dL_law_1118 rfl (lv_at hl 0 rfl) ?_
    refine lv_iload C.hx C.hb dL_law_1119 (lv_at hl 4 rfl) ?_
    refine lv_iconst (v := 1) C.hx C.hb dL_law_1121 (by decide) ?_
    refine lv_iadd C.hx C.hb dL_law_1122 ?_
    refine lq_x C hS hi1 dL_law_1123 ?_
    refine lv_aload_n C.hx C.hb dL_law_1124 rfl (lv_at hl 0 rfl) ?_
    refine lv_iload C.hx C.hb dL_law_1125 (lv_at hl 4 rfl) ?_
    refine lv_iconst (v := 2) C.hx C.hb dL_law_1127 (by decide) ?_
    refine lv_iadd C.hx C.hb dL_law_1128 ?_
    refine lq_x C hS hi2 dL_law_1129 ?_
    refine lv_aload_n C.hx C.hb dL_law_1130 rfl (lv_at hl 3 rfl) ?_
    refine lqL (r := 1) (c0 := ⟨nI T, er, nI nd, tp, fd, ee, oo, tt, rr, sw, hh, tx⟩) (c1 := ⟨nI T, er, nI nd, tp, fd, ee, oo, tt, rr, sw, hh, tx⟩) (m0 := ⟨v, nI T, er, th, nW g, nW a, nW u, nW sl, nW kp, nI mm, nW P0, nW L0, sn, pv, nW r0, gn, vd, nI nd, x1, x2, x3, x4, x5, x6, x7, txt, txd⟩) (o := o) (o1 := o) (As := [.ref (Z.ca 0), .int (xs (i + 1).toNatClampNeg), .int (xs (i + 2).toNatClampNeg), .ref Z.q]) (rest := []) C (c_L_phraseSymbol fu l C.hl0 dC dI K Z.kI Z.kE Z.kL Z.ca Z.a Z.b Z.oa Z.ob Z.ra Z.sa Z.ha Z.ux Z.uy tx (nI T) er (nI nd) tp fd ee oo tt rr sw hh (xs (i + 1).toNatClampNeg) (xs (i + 2).toNatClampNeg) Z.q o H.size _ e1 1 o (Or.inr ⟨rfl, rfl, rfl⟩)) gL_law_L_phraseSymbol qL_phraseSymbol rfl ⟨(Nat.le_of_ble_eq_true rfl), (Nat.le_of_ble_eq_true rfl)⟩ ⟨rfl, rfl⟩ hP hD hS hl.1 rfl rfl (Nat.le_of_ble_eq_true rfl) dL_law_1131 ⟨by omega, by omega⟩ (fun H locs hP hD hS => ?_)
    refine W.widen (k := cells + 8) (n := slots + 48) (by omega) (by omega) ?_
    refine lv_istore (lv' := [(5, .int 1), (0, .ref b), (1, .ref (Z.ca 0)), (2, .ref (Z.ma 0)), (3, .ref Z.q), (4, .int i)]) C.hx C.hb dL_law_1134 hl (by decide) rfl (fun ls hl => ?_)
    refine lv_aload_n C.hx C.hb dL_law_1136 rfl (lv_at hl 3 rfl) ?_
    refine lv_aload_n C.hx C.hb dL_law_1137 rfl (lv_at hl 1 rfl) ?_
    refine lv_iload C.hx C.hb dL_law_1138 (lv_at hl 5 rfl) ?_
    refine lv_iconst (v := 1) C.hx C.hb dL_law_1140 (by decide) ?_
    refine lv_iadd C.hx C.hb dL_law_1141 ?_
    refine lq_x C hS hi1 dL_law_1142 ?_
    refine lv_aload_n C.hx C.hb dL_law_1143 rfl (lv_at hl 1 rfl) ?_
    refine lv_iload C.hx C.hb dL_law_1144 (lv_at hl 5 rfl) ?_
    refine lv_iconst (v := 2) C.hx C.hb dL_law_1146 (by decide) ?_
    refine lv_iadd C.hx C.hb dL_law_1147 ?_
    refine lq_x C hS hi2 dL_law_1148 ?_
    refine lqMi (z := nI 0) (c0 := ⟨nI T, er, nI nd, tp, fd, ee, oo, tt, rr, sw, hh, tx⟩) (m0 := ⟨v, nI T, er, th, nW g, nW a, nW u, nW sl, nW kp, nI mm, nW P0, nW L0, sn, pv, nW r0, gn, vd, nI nd, x1, x2, x3, x4, x5, x6, x7, txt, txd⟩) (m1 := ⟨v, nI T, er, nI 1, nW g, nW a, nW u, nW sl, nW kp, nI mm, nW P0, nW L0, sn, pv, nW r0, gn, vd, nI nd, x1, x2, x3, x4, x5, x6, x7, txt, txd⟩) (o := o) (As := [.int (xs (i + 1).toNatClampNeg), .int (xs (i + 2).toNatClampNeg)]) (rest := []) C (c_X8_phraseSymbol fu l dC dI Z.kI Z.kB Z.kZ Z.ma v (nI T) er th (nW g) (nW a) (nW u) (nW sl) (nW kp) (nI mm) (nW P0) (nW L0) sn pv (nW r0) gn vd (nI nd) x1 x2 x3 x4 x5 x6 x7 txt txd (xs (i + 1).toNatClampNeg) (xs (i + 2).toNatClampNeg) H.size _ e2) gL_law_X8_phraseSymbol qX8_phraseSymbol rfl ⟨(Nat.le_of_ble_eq_true rfl), (Nat.le_of_ble_eq_true rfl)⟩ ⟨rfl, rfl⟩ hP hD hS hl.1 rfl rfl (Nat.le_of_ble_eq_true rfl) dL_law_1149 ⟨by omega, by omega⟩ (fun H locs hP hD hS => ?_)
    refine lv_istore (lv' := [(6, .int (nI 0)), (5, .int 1), (0, .ref b), (1, .ref (Z.ca 0)), (2, .ref (Z.ma 0)), (3, .ref Z.q), (4, .int i)]) C.hx C.hb dL_law_1152 hl (by decide) rfl (fun ls hl => ?_)
    refine lv_aload_n C.hx C.hb dL_law_1154 rfl (lv_at hl 4 rfl) ?_
    refine lqMo (z := nI 1) (c0 := ⟨nI T, er, nI nd, tp, fd, ee, oo, tt, rr, sw, hh, tx⟩) (m0 := ⟨v, nI T, er, nI 1, nW g, nW a, nW u, nW sl, nW kp, nI mm, nW P0, nW L0, sn, pv, nW r0, gn, vd, nI nd, x1, x2, x3, x4, x5, x6, x7, txt, txd⟩) (o := o) (As := []) (rest := []) C (c_X8_thrown l dC dI Z.kI Z.kB Z.kZ Z.ma v (nI T) er (nI 1) (nW g) (nW a) (nW u) (nW sl) (nW kp) (nI mm) (nW P0) (nW L0) sn pv (nW r0) gn vd (nI nd) x1 x2 x3 x4 x5 x6 x7 txt txd (nI 1) rfl) gL_law_X8_thrown qX8_thrown rfl ⟨(Nat.le_of_ble_eq_true rfl), (Nat.le_of_ble_eq_true rfl)⟩ ⟨rfl, rfl⟩ hP hD hS hl.1 rfl rfl (Nat.le_of_ble_eq_true rfl) dL_law_1155 ⟨by omega, by omega⟩ (fun H locs hP hD hS => ?_)
    refine lv_iload C.hx C.hb dL_law_1158 (lv_at hl 1 rfl) ?_
    refine lv_icmp_eq (tgt := 1165) C.hx C.hb dL_law_1160 (by decide) (fun _ => ?_) (fun h9 => absurd (by first | rfl | decide) h9)
    refine lv_iload C.hx C.hb dL_law_1165 (lv_at hl 1 rfl) ?_
    refine lv_if_ne (tgt := 1182) C.hx C.hb dL_law_1167 (by decide) (fun _ => ?_) (fun h9 => absurd h9 (by decide))
    refine lv_goto (tgt := 2318) C.hx C.hb dL_law_1182 (by decide) ?_
    exact KK ⟨nI T, er, nI nd, tp, fd, ee, oo, tt, rr, sw, hh, tx⟩ ⟨v, nI T, er, nI 1, nW g, nW a, nW u, nW sl, nW kp, nI mm, nW P0, nW L0, sn, pv, nW r0, gn, vd, nI nd, x1, x2, x3, x4, x5, x6, x7, txt, txd⟩ o H locs ls ⟨T, er, nd, tp, fd, ee, oo, tt, rr, sw, hh, tx, v, nI 1, g, a, u, sl, kp, mm, P0, L0, sn, pv, r0, gn, vd, x1, x2, x3, x4, x5, x6, x7, txt, txd, bb, rfl, rfl, hTP, hDD, hST, hOF⟩ hP hD hS (lv_sub hl [2, 3, 4, 5, 6] rfl)
set_option maxHeartbeats 4000000 in
set_option maxRecDepth 100000 in
theorem lc_26 (C : LC p l s m args c A0 K dC dI Z b L xs) (hf : 20000 ≤ fu) (hR : REL c0 m0) (hP : va_P (dC, dI) vwCl (LW Z c0 m0 o) H) (hD : va_D A0 (LW Z c0 m0 o)) (hS : va_S A0 s.heap H locs) (hl : lv_has ls 9 [(0, .ref b), (1, .ref (Z.ca 0)), (2, .ref (Z.ma 0)), (3, .ref Z.q), (4, .int i)]) (hi1 : vp_in (i + 1) L) (hcl : cells + 8 ≤ room_1.cells ∧ slots + 48 ≤ room_1.slots) (KK : LKK p l e s m args below meth c (cells + 8) (slots + 48) Q A0 dC dI Z b i) : W p l e room_1 s m args below meth c H locs cells slots Q (F0 m 1185 ls []) := by
  obtain ⟨hc1, hc2⟩ := hcl
  obtain ⟨T, er, nd, tp, fd, ee, oo, tt, rr, sw, hh, tx, v, th, g, a, u, sl, kp, mm, P0, L0, sn, pv, r0, gn, vd, x1, x2, x3, x4, x5, x6, x7, txt, txd, bb, rfl, rfl, hTP, hDD, hST, hOF⟩ := hR
  have hRE := hST.1
  have hG := hST.2.1
  rcases t_prefixOf th hRE hG tp fd oo tt rr sw hh (xs (i + 1).toNatClampNeg) with ⟨w, e1, e2⟩ | ⟨e1, e2⟩ | ⟨e1, e2⟩
  · refine lv_aload_n C.hx C.hb dL_law_1185 rfl (lv_at hl 1 rfl) ?_
    refine lv_aload_n C.hx C.hb dL_law_1186 rfl (lv_at hl 0 rfl) ?_
    refine lv_iload C.hx C.hb dL_law_1187 (lv_at hl 4 rfl) ?_
    refine lv_iconst (v := 1) C.hx C.hb dL_law_1189 (by decide) ?_
    refine lv_iadd C.hx C.hb dL_law_1190 ?_
    refine lq_x C hS hi1 dL_law_1191 ?_
    refine lv_aload_n C.hx C.hb dL_law_1192 rfl (lv_at hl 3 rfl) ?_
    refine lqL (r := 0) (c0 := ⟨nI T, er, nI nd, tp, fd, ee, oo, tt, rr, sw, hh, tx⟩) (c1 := ⟨nI T, er, nI nd, tp, fd, ee, oo, tt, rr, sw, hh, tx⟩) (m0 := ⟨v, nI T, er, th, nW g, nW a, nW u, nW sl, nW kp, nI mm, nW P0, nW L0, sn, pv, nW r0, gn, vd, nI nd, x1, x2, x3, x4, x5, x6, x7, txt, txd⟩) (o := o) (o1 := (vp_updL o 0 w.toInt64)) (As := [.ref (Z.ca 0), .int (xs (i + 1).toNatClampNeg), .ref Z.q]) (rest := []) C (c_L_prefixOf l C.hl0 dC dI K Z.kI Z.kE Z.kL Z.ca Z.a Z.b Z.oa Z.ob Z.ra Z.sa Z.ha Z.ux Z.uy tx (nI T) er (nI nd) tp fd ee oo tt rr sw hh (xs (i + 1).toNatClampNeg) Z.q o H.size _ e1 0 (vp_updL o 0 w.toInt64) (Or.inl ⟨w, rfl, rfl, rfl⟩)) gL_law_L_prefixOf qL_prefixOf rfl ⟨(Nat.le_of_ble_eq_true rfl), (Nat.le_of_ble_eq_true rfl)⟩ ⟨rfl, rfl⟩ hP hD hS hl.1 rfl rfl (Nat.le_of_ble_eq_true rfl) dL_law_1193 ⟨by omega, by omega⟩ (fun H locs hP hD hS => ?_)
    refine W.widen (k := cells + 8) (n := slots + 48) (by omega) (by omega) ?_
    refine lv_istore (lv' := [(5, .int 0), (0, .ref b), (1, .ref (Z.ca 0)), (2, .ref (Z.ma 0)), (3, .ref Z.q), (4, .int i)]) C.hx C.hb dL_law_1196 hl (by decide) rfl (fun ls hl => ?_)
    refine lv_aload_n C.hx C.hb dL_law_1198 rfl (lv_at hl 3 rfl) ?_
    refine lv_aload_n C.hx C.hb dL_law_1199 rfl (lv_at hl 1 rfl) ?_
    refine lv_iload C.hx C.hb dL_law_1200 (lv_at hl 5 rfl) ?_
    refine lv_iconst (v := 1) C.hx C.hb dL_law_1202 (by decide) ?_
    refine lv_iadd C.hx C.hb dL_law_1203 ?_
    refine lq_x C hS hi1 dL_law_1204 ?_
    refine lqMi (z := w) (c0 := ⟨nI T, er, nI nd, tp, fd, ee, oo, tt, rr, sw, hh, tx⟩) (m0 := ⟨v, nI T, er, th, nW g, nW a, nW u, nW sl, nW kp, nI mm, nW P0, nW L0, sn, pv, nW r0, gn, vd, nI nd, x1, x2, x3, x4, x5, x6, x7, txt, txd⟩) (m1 := ⟨v, nI T, er, nI 0, nW g, nW a, nW u, nW sl, nW kp, nI mm, nW P0, nW L0, sn, pv, nW r0, gn, vd, nI nd, x1, x2, x3, x4, x5, x6, x7, txt, txd⟩) (o := (vp_updL o 0 w.toInt64)) (As := [.int (xs (i + 1).toNatClampNeg)]) (rest := []) C (c_X8_prefixOf l dC dI Z.kI Z.kB Z.kZ Z.ma v (nI T) er th (nW g) (nW a) (nW u) (nW sl) (nW kp) (nI mm) (nW P0) (nW L0) sn pv (nW r0) gn vd (nI nd) x1 x2 x3 x4 x5 x6 x7 txt txd (xs (i + 1).toNatClampNeg) H.size _ e2) gL_law_X8_prefixOf qX8_prefixOf rfl ⟨(Nat.le_of_ble_eq_true rfl), (Nat.le_of_ble_eq_true rfl)⟩ ⟨rfl, rfl⟩ hP hD hS hl.1 rfl rfl (Nat.le_of_ble_eq_true rfl) dL_law_1205 ⟨by omega, by omega⟩ (fun H locs hP hD hS => ?_)
    refine lv_istore (lv' := [(6, .int w), (5, .int 0), (0, .ref b), (1, .ref (Z.ca 0)), (2, .ref (Z.ma 0)), (3, .ref Z.q), (4, .int i)]) C.hx C.hb dL_law_1208 hl (by decide) rfl (fun ls hl => ?_)
    refine lv_aload_n C.hx C.hb dL_law_1210 rfl (lv_at hl 4 rfl) ?_
    refine lqMo (z := nI 0) (c0 := ⟨nI T, er, nI nd, tp, fd, ee, oo, tt, rr, sw, hh, tx⟩) (m0 := ⟨v, nI T, er, nI 0, nW g, nW a, nW u, nW sl, nW kp, nI mm, nW P0, nW L0, sn, pv, nW r0, gn, vd, nI nd, x1, x2, x3, x4, x5, x6, x7, txt, txd⟩) (o := (vp_updL o 0 w.toInt64)) (As := []) (rest := []) C (c_X8_thrown l dC dI Z.kI Z.kB Z.kZ Z.ma v (nI T) er (nI 0) (nW g) (nW a) (nW u) (nW sl) (nW kp) (nI mm) (nW P0) (nW L0) sn pv (nW r0) gn vd (nI nd) x1 x2 x3 x4 x5 x6 x7 txt txd (nI 0) rfl) gL_law_X8_thrown qX8_thrown rfl ⟨(Nat.le_of_ble_eq_true rfl), (Nat.le_of_ble_eq_true rfl)⟩ ⟨rfl, rfl⟩ hP hD hS hl.1 rfl rfl (Nat.le_of_ble_eq_true rfl) dL_law_1211 ⟨by omega, by omega⟩ (fun H locs hP hD hS => ?_)
    refine lv_iload C.hx C.hb dL_law_1214 (lv_at hl 1 rfl) ?_
    refine lv_icmp_eq (tgt := 1221) C.hx C.hb dL_law_1216 (by decide) (fun _ => ?_) (fun h9 => absurd (by first | rfl | decide) h9)
    refine lv_iload C.hx C.hb dL_law_1221 (lv_at hl 1 rfl) ?_
    refine lv_if_ne (tgt := 1238) C.hx C.hb dL_law_1223 (by decide) (fun h9 => absurd rfl h9) (fun _ => ?_)
    refine lv_aload_n C.hx C.hb dL_law_1226 rfl (lv_at hl 5 rfl) ?_
    refine lv_iconst (v := 0) C.hx C.hb dL_law_1227 (by decide) ?_
    refine lq_o C hP dL_law_1228 ?_
    refine lv_iload C.hx C.hb dL_law_1229 (lv_at hl 0 rfl) ?_
    refine lv_i2l (v := w.toInt64) C.hx C.hb dL_law_1231 rfl ?_
    refine W.lcmp C.hx C.hb dL_law_1232 ?_
    refine lv_if_eq (tgt := 1238) C.hx C.hb dL_law_1233 (by decide) (fun _ => ?_) (fun h9 => absurd (cmp_self _) h9)
    refine lv_goto (tgt := 2318) C.hx C.hb dL_law_1238 (by decide) ?_
    exact KK ⟨nI T, er, nI nd, tp, fd, ee, oo, tt, rr, sw, hh, tx⟩ ⟨v, nI T, er, nI 0, nW g, nW a, nW u, nW sl, nW kp, nI mm, nW P0, nW L0, sn, pv, nW r0, gn, vd, nI nd, x1, x2, x3, x4, x5, x6, x7, txt, txd⟩ (vp_updL o 0 w.toInt64) H locs ls ⟨T, er, nd, tp, fd, ee, oo, tt, rr, sw, hh, tx, v, nI 0, g, a, u, sl, kp, mm, P0, L0, sn, pv, r0, gn, vd, x1, x2, x3, x4, x5, x6, x7, txt, txd, bb, rfl, rfl, hTP, hDD, hST, hOF⟩ hP hD hS (lv_sub hl [2, 3, 4, 5, 6] rfl)
  · refine lv_aload_n C.hx C.hb dL_law_1185 rfl (lv_at hl 1 rfl) ?_
    refine lv_aload_n C.hx C.hb dL_law_1186 rfl (lv_at hl 0 rfl) ?_
    refine lv_iload C.hx C.hb dL_law_1187 (lv_at hl 4 rfl) ?_
    refine lv_iconst (v := 1) C.hx C.hb dL_law_1189 (by decide) ?_
    refine lv_iadd C.hx C.hb dL_law_1190 ?_
    refine lq_x C hS hi1 dL_law_1191 ?_
    refine lv_aload_n C.hx C.hb dL_law_1192 rfl (lv_at hl 3 rfl) ?_
    refine lqL (r := 1) (c0 := ⟨nI T, er, nI nd, tp, fd, ee, oo, tt, rr, sw, hh, tx⟩) (c1 := ⟨nI T, er, nI nd, tp, fd, ee, oo, tt, rr, sw, hh, tx⟩) (m0 := ⟨v, nI T, er, th, nW g, nW a, nW u, nW sl, nW kp, nI mm, nW P0, nW L0, sn, pv, nW r0, gn, vd, nI nd, x1, x2, x3, x4, x5, x6, x7, txt, txd⟩) (o := o) (o1 := o) (As := [.ref (Z.ca 0), .int (xs (i + 1).toNatClampNeg), .ref Z.q]) (rest := []) C (c_L_prefixOf l C.hl0 dC dI K Z.kI Z.kE Z.kL Z.ca Z.a Z.b Z.oa Z.ob Z.ra Z.sa Z.ha Z.ux Z.uy tx (nI T) er (nI nd) tp fd ee oo tt rr sw hh (xs (i + 1).toNatClampNeg) Z.q o H.size _ e1 1 o (Or.inr (Or.inl ⟨rfl, rfl, rfl⟩))) gL_law_L_prefixOf qL_prefixOf rfl ⟨(Nat.le_of_ble_eq_true rfl), (Nat.le_of_ble_eq_true rfl)⟩ ⟨rfl, rfl⟩ hP hD hS hl.1 rfl rfl (Nat.le_of_ble_eq_true rfl) dL_law_1193 ⟨by omega, by omega⟩ (fun H locs hP hD hS => ?_)
    refine W.widen (k := cells + 8) (n := slots + 48) (by omega) (by omega) ?_
    refine lv_istore (lv' := [(5, .int 1), (0, .ref b), (1, .ref (Z.ca 0)), (2, .ref (Z.ma 0)), (3, .ref Z.q), (4, .int i)]) C.hx C.hb dL_law_1196 hl (by decide) rfl (fun ls hl => ?_)
    refine lv_aload_n C.hx C.hb dL_law_1198 rfl (lv_at hl 3 rfl) ?_
    refine lv_aload_n C.hx C.hb dL_law_1199 rfl (lv_at hl 1 rfl) ?_
    refine lv_iload C.hx C.hb dL_law_1200 (lv_at hl 5 rfl) ?_
    refine lv_iconst (v := 1) C.hx C.hb dL_law_1202 (by decide) ?_
    refine lv_iadd C.hx C.hb dL_law_1203 ?_
    refine lq_x C hS hi1 dL_law_1204 ?_
    refine lqMi (z := nI 0) (c0 := ⟨nI T, er, nI nd, tp, fd, ee, oo, tt, rr, sw, hh, tx⟩) (m0 := ⟨v, nI T, er, th, nW g, nW a, nW u, nW sl, nW kp, nI mm, nW P0, nW L0, sn, pv, nW r0, gn, vd, nI nd, x1, x2, x3, x4, x5, x6, x7, txt, txd⟩) (m1 := ⟨v, nI T, er, nI 1, nW g, nW a, nW u, nW sl, nW kp, nI mm, nW P0, nW L0, sn, pv, nW r0, gn, vd, nI nd, x1, x2, x3, x4, x5, x6, x7, txt, txd⟩) (o := o) (As := [.int (xs (i + 1).toNatClampNeg)]) (rest := []) C (c_X8_prefixOf l dC dI Z.kI Z.kB Z.kZ Z.ma v (nI T) er th (nW g) (nW a) (nW u) (nW sl) (nW kp) (nI mm) (nW P0) (nW L0) sn pv (nW r0) gn vd (nI nd) x1 x2 x3 x4 x5 x6 x7 txt txd (xs (i + 1).toNatClampNeg) H.size _ e2) gL_law_X8_prefixOf qX8_prefixOf rfl ⟨(Nat.le_of_ble_eq_true rfl), (Nat.le_of_ble_eq_true rfl)⟩ ⟨rfl, rfl⟩ hP hD hS hl.1 rfl rfl (Nat.le_of_ble_eq_true rfl) dL_law_1205 ⟨by omega, by omega⟩ (fun H locs hP hD hS => ?_)
    refine lv_istore (lv' := [(6, .int (nI 0)), (5, .int 1), (0, .ref b), (1, .ref (Z.ca 0)), (2, .ref (Z.ma 0)), (3, .ref Z.q), (4, .int i)]) C.hx C.hb dL_law_1208 hl (by decide) rfl (fun ls hl => ?_)
    refine lv_aload_n C.hx C.hb dL_law_1210 rfl (lv_at hl 4 rfl) ?_
    refine lqMo (z := nI 1) (c0 := ⟨nI T, er, nI nd, tp, fd, ee, oo, tt, rr, sw, hh, tx⟩) (m0 := ⟨v, nI T, er, nI 1, nW g, nW a, nW u, nW sl, nW kp, nI mm, nW P0, nW L0, sn, pv, nW r0, gn, vd, nI nd, x1, x2, x3, x4, x5, x6, x7, txt, txd⟩) (o := o) (As := []) (rest := []) C (c_X8_thrown l dC dI Z.kI Z.kB Z.kZ Z.ma v (nI T) er (nI 1) (nW g) (nW a) (nW u) (nW sl) (nW kp) (nI mm) (nW P0) (nW L0) sn pv (nW r0) gn vd (nI nd) x1 x2 x3 x4 x5 x6 x7 txt txd (nI 1) rfl) gL_law_X8_thrown qX8_thrown rfl ⟨(Nat.le_of_ble_eq_true rfl), (Nat.le_of_ble_eq_true rfl)⟩ ⟨rfl, rfl⟩ hP hD hS hl.1 rfl rfl (Nat.le_of_ble_eq_true rfl) dL_law_1211 ⟨by omega, by omega⟩ (fun H locs hP hD hS => ?_)
    refine lv_iload C.hx C.hb dL_law_1214 (lv_at hl 1 rfl) ?_
    refine lv_icmp_eq (tgt := 1221) C.hx C.hb dL_law_1216 (by decide) (fun _ => ?_) (fun h9 => absurd (by first | rfl | decide) h9)
    refine lv_iload C.hx C.hb dL_law_1221 (lv_at hl 1 rfl) ?_
    refine lv_if_ne (tgt := 1238) C.hx C.hb dL_law_1223 (by decide) (fun _ => ?_) (fun h9 => absurd h9 (by decide))
    refine lv_goto (tgt := 2318) C.hx C.hb dL_law_1238 (by decide) ?_
    exact KK ⟨nI T, er, nI nd, tp, fd, ee, oo, tt, rr, sw, hh, tx⟩ ⟨v, nI T, er, nI 1, nW g, nW a, nW u, nW sl, nW kp, nI mm, nW P0, nW L0, sn, pv, nW r0, gn, vd, nI nd, x1, x2, x3, x4, x5, x6, x7, txt, txd⟩ o H locs ls ⟨T, er, nd, tp, fd, ee, oo, tt, rr, sw, hh, tx, v, nI 1, g, a, u, sl, kp, mm, P0, L0, sn, pv, r0, gn, vd, x1, x2, x3, x4, x5, x6, x7, txt, txd, bb, rfl, rfl, hTP, hDD, hST, hOF⟩ hP hD hS (lv_sub hl [2, 3, 4, 5, 6] rfl)
  · refine lv_aload_n C.hx C.hb dL_law_1185 rfl (lv_at hl 1 rfl) ?_
    refine lv_aload_n C.hx C.hb dL_law_1186 rfl (lv_at hl 0 rfl) ?_
    refine lv_iload C.hx C.hb dL_law_1187 (lv_at hl 4 rfl) ?_
    refine lv_iconst (v := 1) C.hx C.hb dL_law_1189 (by decide) ?_
    refine lv_iadd C.hx C.hb dL_law_1190 ?_
    refine lq_x C hS hi1 dL_law_1191 ?_
    refine lv_aload_n C.hx C.hb dL_law_1192 rfl (lv_at hl 3 rfl) ?_
    refine lqL (r := 2) (c0 := ⟨nI T, er, nI nd, tp, fd, ee, oo, tt, rr, sw, hh, tx⟩) (c1 := ⟨nI T, er, nI nd, tp, fd, ee, oo, tt, rr, sw, hh, tx⟩) (m0 := ⟨v, nI T, er, th, nW g, nW a, nW u, nW sl, nW kp, nI mm, nW P0, nW L0, sn, pv, nW r0, gn, vd, nI nd, x1, x2, x3, x4, x5, x6, x7, txt, txd⟩) (o := o) (o1 := o) (As := [.ref (Z.ca 0), .int (xs (i + 1).toNatClampNeg), .ref Z.q]) (rest := []) C (c_L_prefixOf l C.hl0 dC dI K Z.kI Z.kE Z.kL Z.ca Z.a Z.b Z.oa Z.ob Z.ra Z.sa Z.ha Z.ux Z.uy tx (nI T) er (nI nd) tp fd ee oo tt rr sw hh (xs (i + 1).toNatClampNeg) Z.q o H.size _ e1 2 o (Or.inr (Or.inr ⟨rfl, rfl, rfl⟩))) gL_law_L_prefixOf qL_prefixOf rfl ⟨(Nat.le_of_ble_eq_true rfl), (Nat.le_of_ble_eq_true rfl)⟩ ⟨rfl, rfl⟩ hP hD hS hl.1 rfl rfl (Nat.le_of_ble_eq_true rfl) dL_law_1193 ⟨by omega, by omega⟩ (fun H locs hP hD hS => ?_)
    refine W.widen (k := cells + 8) (n := slots + 48) (by omega) (by omega) ?_
    refine lv_istore (lv' := [(5, .int 2), (0, .ref b), (1, .ref (Z.ca 0)), (2, .ref (Z.ma 0)), (3, .ref Z.q), (4, .int i)]) C.hx C.hb dL_law_1196 hl (by decide) rfl (fun ls hl => ?_)
    refine lv_aload_n C.hx C.hb dL_law_1198 rfl (lv_at hl 3 rfl) ?_
    refine lv_aload_n C.hx C.hb dL_law_1199 rfl (lv_at hl 1 rfl) ?_
    refine lv_iload C.hx C.hb dL_law_1200 (lv_at hl 5 rfl) ?_
    refine lv_iconst (v := 1) C.hx C.hb dL_law_1202 (by decide) ?_
    refine lv_iadd C.hx C.hb dL_law_1203 ?_
    refine lq_x C hS hi1 dL_law_1204 ?_
    refine lqMi (z := nI 0) (c0 := ⟨nI T, er, nI nd, tp, fd, ee, oo, tt, rr, sw, hh, tx⟩) (m0 := ⟨v, nI T, er, th, nW g, nW a, nW u, nW sl, nW kp, nI mm, nW P0, nW L0, sn, pv, nW r0, gn, vd, nI nd, x1, x2, x3, x4, x5, x6, x7, txt, txd⟩) (m1 := ⟨v, nI T, er, nI 2, nW g, nW a, nW u, nW sl, nW kp, nI mm, nW P0, nW L0, sn, pv, nW r0, gn, vd, nI nd, x1, x2, x3, x4, x5, x6, x7, txt, txd⟩) (o := o) (As := [.int (xs (i + 1).toNatClampNeg)]) (rest := []) C (c_X8_prefixOf l dC dI Z.kI Z.kB Z.kZ Z.ma v (nI T) er th (nW g) (nW a) (nW u) (nW sl) (nW kp) (nI mm) (nW P0) (nW L0) sn pv (nW r0) gn vd (nI nd) x1 x2 x3 x4 x5 x6 x7 txt txd (xs (i + 1).toNatClampNeg) H.size _ e2) gL_law_X8_prefixOf qX8_prefixOf rfl ⟨(Nat.le_of_ble_eq_true rfl), (Nat.le_of_ble_eq_true rfl)⟩ ⟨rfl, rfl⟩ hP hD hS hl.1 rfl rfl (Nat.le_of_ble_eq_true rfl) dL_law_1205 ⟨by omega, by omega⟩ (fun H locs hP hD hS => ?_)
    refine lv_istore (lv' := [(6, .int (nI 0)), (5, .int 2), (0, .ref b), (1, .ref (Z.ca 0)), (2, .ref (Z.ma 0)), (3, .ref Z.q), (4, .int i)]) C.hx C.hb dL_law_1208 hl (by decide) rfl (fun ls hl => ?_)
    refine lv_aload_n C.hx C.hb dL_law_1210 rfl (lv_at hl 4 rfl) ?_
    refine lqMo (z := nI 2) (c0 := ⟨nI T, er, nI nd, tp, fd, ee, oo, tt, rr, sw, hh, tx⟩) (m0 := ⟨v, nI T, er, nI 2, nW g, nW a, nW u, nW sl, nW kp, nI mm, nW P0, nW L0, sn, pv, nW r0, gn, vd, nI nd, x1, x2, x3, x4, x5, x6, x7, txt, txd⟩) (o := o) (As := []) (rest := []) C (c_X8_thrown l dC dI Z.kI Z.kB Z.kZ Z.ma v (nI T) er (nI 2) (nW g) (nW a) (nW u) (nW sl) (nW kp) (nI mm) (nW P0) (nW L0) sn pv (nW r0) gn vd (nI nd) x1 x2 x3 x4 x5 x6 x7 txt txd (nI 2) rfl) gL_law_X8_thrown qX8_thrown rfl ⟨(Nat.le_of_ble_eq_true rfl), (Nat.le_of_ble_eq_true rfl)⟩ ⟨rfl, rfl⟩ hP hD hS hl.1 rfl rfl (Nat.le_of_ble_eq_true rfl) dL_law_1211 ⟨by omega, by omega⟩ (fun H locs hP hD hS => ?_)
    refine lv_iload C.hx C.hb dL_law_1214 (lv_at hl 1 rfl) ?_
    refine lv_icmp_eq (tgt := 1221) C.hx C.hb dL_law_1216 (by decide) (fun _ => ?_) (fun h9 => absurd (by first | rfl | decide) h9)
    refine lv_iload C.hx C.hb dL_law_1221 (lv_at hl 1 rfl) ?_
    refine lv_if_ne (tgt := 1238) C.hx C.hb dL_law_1223 (by decide) (fun _ => ?_) (fun h9 => absurd h9 (by decide))
    refine lv_goto (tgt := 2318) C.hx C.hb dL_law_1238 (by decide) ?_
    exact KK ⟨nI T, er, nI nd, tp, fd, ee, oo, tt, rr, sw, hh, tx⟩ ⟨v, nI T, er, nI 2, nW g, nW a, nW u, nW sl, nW kp, nI mm, nW P0, nW L0, sn, pv, nW r0, gn, vd, nI nd, x1, x2, x3, x4, x5, x6, x7, txt, txd⟩ o H locs ls ⟨T, er, nd, tp, fd, ee, oo, tt, rr, sw, hh, tx, v, nI 2, g, a, u, sl, kp, mm, P0, L0, sn, pv, r0, gn, vd, x1, x2, x3, x4, x5, x6, x7, txt, txd, bb, rfl, rfl, hTP, hDD, hST, hOF⟩ hP hD hS (lv_sub hl [2, 3, 4, 5, 6] rfl)
set_option maxHeartbeats 4000000 in
set_option maxRecDepth 100000 in
theorem lc_27 (C : LC p l s m args c A0 K dC dI Z b L xs) (hf : 20000 ≤ fu) (hR : REL c0 m0) (hP : va_P (dC, dI) vwCl (LW Z c0 m0 o) H) (hD : va_D A0 (LW Z c0 m0 o)) (hS : va_S A0 s.heap H locs) (hl : lv_has ls 9 [(0, .ref b), (1, .ref (Z.ca 0)), (2, .ref (Z.ma 0)), (3, .ref Z.q), (4, .int i)]) (hi1 : vp_in (i + 1) L) (hi2 : vp_in (i + 2) L) (hcl : cells + 8 ≤ room_1.cells ∧ slots + 48 ≤ room_1.slots) (KK : LKK p l e s m args below meth c (cells + 8) (slots + 48) Q A0 dC dI Z b i) : W p l e room_1 s m args below meth c H locs cells slots Q (F0 m 1241 ls []) := by
  obtain ⟨hc1, hc2⟩ := hcl
  obtain ⟨T, er, nd, tp, fd, ee, oo, tt, rr, sw, hh, tx, v, th, g, a, u, sl, kp, mm, P0, L0, sn, pv, r0, gn, vd, x1, x2, x3, x4, x5, x6, x7, txt, txd, bb, rfl, rfl, hTP, hDD, hST, hOF⟩ := hR
  have hRE := hST.1
  have hG := hST.2.1
  rcases t_extensionOf fu hf th hRE hG tp fd oo tt rr sw hh (xs (i + 1).toNatClampNeg) (xs (i + 2).toNatClampNeg) with ⟨w, e1, e2⟩ | ⟨e1, e2⟩ | ⟨e1, e2⟩ | ⟨e1, e2⟩
  · refine lv_aload_n C.hx C.hb dL_law_1241 rfl (lv_at hl 1 rfl) ?_
    refine lv_aload_n C.hx C.hb dL_law_1242 rfl (lv_at hl 0 rfl) ?_
    refine lv_iload C.hx C.hb dL_law_1243 (lv_at hl 4 rfl) ?_
    refine lv_iconst (v := 1) C.hx C.hb dL_law_1245 (by decide) ?_
    refine lv_iadd C.hx C.hb dL_law_1246 ?_
    refine lq_x C hS hi1 dL_law_1247 ?_
    refine lv_aload_n C.hx C.hb dL_law_1248 rfl (lv_at hl 0 rfl) ?_
    refine lv_iload C.hx C.hb dL_law_1249 (lv_at hl 4 rfl) ?_
    refine lv_iconst (v := 2) C.hx C.hb dL_law_1251 (by decide) ?_
    refine lv_iadd C.hx C.hb dL_law_1252 ?_
    refine lq_x C hS hi2 dL_law_1253 ?_
    refine lv_aload_n C.hx C.hb dL_law_1254 rfl (lv_at hl 3 rfl) ?_
    refine lqL (r := 0) (c0 := ⟨nI T, er, nI nd, tp, fd, ee, oo, tt, rr, sw, hh, tx⟩) (c1 := ⟨nI T, er, nI nd, tp, fd, ee, oo, tt, rr, sw, hh, tx⟩) (m0 := ⟨v, nI T, er, th, nW g, nW a, nW u, nW sl, nW kp, nI mm, nW P0, nW L0, sn, pv, nW r0, gn, vd, nI nd, x1, x2, x3, x4, x5, x6, x7, txt, txd⟩) (o := o) (o1 := (vp_updL o 0 w.toInt64)) (As := [.ref (Z.ca 0), .int (xs (i + 1).toNatClampNeg), .int (xs (i + 2).toNatClampNeg), .ref Z.q]) (rest := []) C (c_L_extensionOf fu l C.hl0 dC dI K Z.kI Z.kE Z.kL Z.ca Z.a Z.b Z.oa Z.ob Z.ra Z.sa Z.ha Z.ux Z.uy tx (nI T) er (nI nd) tp fd ee oo tt rr sw hh (xs (i + 1).toNatClampNeg) (xs (i + 2).toNatClampNeg) Z.q o H.size _ e1 0 (vp_updL o 0 w.toInt64) (Or.inl ⟨w, rfl, rfl, rfl⟩)) gL_law_L_extensionOf qL_extensionOf rfl ⟨(Nat.le_of_ble_eq_true rfl), (Nat.le_of_ble_eq_true rfl)⟩ ⟨rfl, rfl⟩ hP hD hS hl.1 rfl rfl (Nat.le_of_ble_eq_true rfl) dL_law_1255 ⟨by omega, by omega⟩ (fun H locs hP hD hS => ?_)
    refine W.widen (k := cells + 8) (n := slots + 48) (by omega) (by omega) ?_
    refine lv_istore (lv' := [(5, .int 0), (0, .ref b), (1, .ref (Z.ca 0)), (2, .ref (Z.ma 0)), (3, .ref Z.q), (4, .int i)]) C.hx C.hb dL_law_1258 hl (by decide) rfl (fun ls hl => ?_)
    refine lv_aload_n C.hx C.hb dL_law_1260 rfl (lv_at hl 3 rfl) ?_
    refine lv_aload_n C.hx C.hb dL_law_1261 rfl (lv_at hl 1 rfl) ?_
    refine lv_iload C.hx C.hb dL_law_1262 (lv_at hl 5 rfl) ?_
    refine lv_iconst (v := 1) C.hx C.hb dL_law_1264 (by decide) ?_
    refine lv_iadd C.hx C.hb dL_law_1265 ?_
    refine lq_x C hS hi1 dL_law_1266 ?_
    refine lv_aload_n C.hx C.hb dL_law_1267 rfl (lv_at hl 1 rfl) ?_
    refine lv_iload C.hx C.hb dL_law_1268 (lv_at hl 5 rfl) ?_
    refine lv_iconst (v := 2) C.hx C.hb dL_law_1270 (by decide) ?_
    refine lv_iadd C.hx C.hb dL_law_1271 ?_
    refine lq_x C hS hi2 dL_law_1272 ?_
    refine lqMi (z := w) (c0 := ⟨nI T, er, nI nd, tp, fd, ee, oo, tt, rr, sw, hh, tx⟩) (m0 := ⟨v, nI T, er, th, nW g, nW a, nW u, nW sl, nW kp, nI mm, nW P0, nW L0, sn, pv, nW r0, gn, vd, nI nd, x1, x2, x3, x4, x5, x6, x7, txt, txd⟩) (m1 := ⟨v, nI T, er, nI 0, nW g, nW a, nW u, nW sl, nW kp, nI mm, nW P0, nW L0, sn, pv, nW r0, gn, vd, nI nd, x1, x2, x3, x4, x5, x6, x7, txt, txd⟩) (o := (vp_updL o 0 w.toInt64)) (As := [.int (xs (i + 1).toNatClampNeg), .int (xs (i + 2).toNatClampNeg)]) (rest := []) C (c_X8_extensionOf fu l dC dI Z.kI Z.kB Z.kZ Z.ma v (nI T) er th (nW g) (nW a) (nW u) (nW sl) (nW kp) (nI mm) (nW P0) (nW L0) sn pv (nW r0) gn vd (nI nd) x1 x2 x3 x4 x5 x6 x7 txt txd (xs (i + 1).toNatClampNeg) (xs (i + 2).toNatClampNeg) H.size _ e2) gL_law_X8_extensionOf qX8_extensionOf rfl ⟨(Nat.le_of_ble_eq_true rfl), (Nat.le_of_ble_eq_true rfl)⟩ ⟨rfl, rfl⟩ hP hD hS hl.1 rfl rfl (Nat.le_of_ble_eq_true rfl) dL_law_1273 ⟨by omega, by omega⟩ (fun H locs hP hD hS => ?_)
    refine lv_istore (lv' := [(6, .int w), (5, .int 0), (0, .ref b), (1, .ref (Z.ca 0)), (2, .ref (Z.ma 0)), (3, .ref Z.q), (4, .int i)]) C.hx C.hb dL_law_1276 hl (by decide) rfl (fun ls hl => ?_)
    refine lv_aload_n C.hx C.hb dL_law_1278 rfl (lv_at hl 4 rfl) ?_
    refine lqMo (z := nI 0) (c0 := ⟨nI T, er, nI nd, tp, fd, ee, oo, tt, rr, sw, hh, tx⟩) (m0 := ⟨v, nI T, er, nI 0, nW g, nW a, nW u, nW sl, nW kp, nI mm, nW P0, nW L0, sn, pv, nW r0, gn, vd, nI nd, x1, x2, x3, x4, x5, x6, x7, txt, txd⟩) (o := (vp_updL o 0 w.toInt64)) (As := []) (rest := []) C (c_X8_thrown l dC dI Z.kI Z.kB Z.kZ Z.ma v (nI T) er (nI 0) (nW g) (nW a) (nW u) (nW sl) (nW kp) (nI mm) (nW P0) (nW L0) sn pv (nW r0) gn vd (nI nd) x1 x2 x3 x4 x5 x6 x7 txt txd (nI 0) rfl) gL_law_X8_thrown qX8_thrown rfl ⟨(Nat.le_of_ble_eq_true rfl), (Nat.le_of_ble_eq_true rfl)⟩ ⟨rfl, rfl⟩ hP hD hS hl.1 rfl rfl (Nat.le_of_ble_eq_true rfl) dL_law_1279 ⟨by omega, by omega⟩ (fun H locs hP hD hS => ?_)
    refine lv_iload C.hx C.hb dL_law_1282 (lv_at hl 1 rfl) ?_
    refine lv_icmp_eq (tgt := 1289) C.hx C.hb dL_law_1284 (by decide) (fun _ => ?_) (fun h9 => absurd (by first | rfl | decide) h9)
    refine lv_iload C.hx C.hb dL_law_1289 (lv_at hl 1 rfl) ?_
    refine lv_if_ne (tgt := 1306) C.hx C.hb dL_law_1291 (by decide) (fun h9 => absurd rfl h9) (fun _ => ?_)
    refine lv_aload_n C.hx C.hb dL_law_1294 rfl (lv_at hl 5 rfl) ?_
    refine lv_iconst (v := 0) C.hx C.hb dL_law_1295 (by decide) ?_
    refine lq_o C hP dL_law_1296 ?_
    refine lv_iload C.hx C.hb dL_law_1297 (lv_at hl 0 rfl) ?_
    refine lv_i2l (v := w.toInt64) C.hx C.hb dL_law_1299 rfl ?_
    refine W.lcmp C.hx C.hb dL_law_1300 ?_
    refine lv_if_eq (tgt := 1306) C.hx C.hb dL_law_1301 (by decide) (fun _ => ?_) (fun h9 => absurd (cmp_self _) h9)
    refine lv_goto (tgt := 2318) C.hx C.hb dL_law_1306 (by decide) ?_
    exact KK ⟨nI T, er, nI nd, tp, fd, ee, oo, tt, rr, sw, hh, tx⟩ ⟨v, nI T, er, nI 0, nW g, nW a, nW u, nW sl, nW kp, nI mm, nW P0, nW L0, sn, pv, nW r0, gn, vd, nI nd, x1, x2, x3, x4, x5, x6, x7, txt, txd⟩ (vp_updL o 0 w.toInt64) H locs ls ⟨T, er, nd, tp, fd, ee, oo, tt, rr, sw, hh, tx, v, nI 0, g, a, u, sl, kp, mm, P0, L0, sn, pv, r0, gn, vd, x1, x2, x3, x4, x5, x6, x7, txt, txd, bb, rfl, rfl, hTP, hDD, hST, hOF⟩ hP hD hS (lv_sub hl [2, 3, 4, 5, 6] rfl)
  · refine lv_aload_n C.hx C.hb dL_law_1241 rfl (lv_at hl 1 rfl) ?_
    refine lv_aload_n C.hx C.hb dL_law_1242 rfl (lv_at hl 0 rfl) ?_
    refine lv_iload C.hx C.hb dL_law_1243 (lv_at hl 4 rfl) ?_
    refine lv_iconst (v := 1) C.hx C.hb dL_law_1245 (by decide) ?_
    refine lv_iadd C.hx C.hb dL_law_1246 ?_
    refine lq_x C hS hi1 dL_law_1247 ?_
    refine lv_aload_n C.hx C.hb dL_law_1248 rfl (lv_at hl 0 rfl) ?_
    refine lv_iload C.hx C.hb dL_law_1249 (lv_at hl 4 rfl) ?_
    refine lv_iconst (v := 2) C.hx C.hb dL_law_1251 (by decide) ?_
    refine lv_iadd C.hx C.hb dL_law_1252 ?_
    refine lq_x C hS hi2 dL_law_1253 ?_
    refine lv_aload_n C.hx C.hb dL_law_1254 rfl (lv_at hl 3 rfl) ?_
    refine lqL (r := 1) (c0 := ⟨nI T, er, nI nd, tp, fd, ee, oo, tt, rr, sw, hh, tx⟩) (c1 := ⟨nI T, er, nI nd, tp, fd, ee, oo, tt, rr, sw, hh, tx⟩) (m0 := ⟨v, nI T, er, th, nW g, nW a, nW u, nW sl, nW kp, nI mm, nW P0, nW L0, sn, pv, nW r0, gn, vd, nI nd, x1, x2, x3, x4, x5, x6, x7, txt, txd⟩) (o := o) (o1 := o) (As := [.ref (Z.ca 0), .int (xs (i + 1).toNatClampNeg), .int (xs (i + 2).toNatClampNeg), .ref Z.q]) (rest := []) C (c_L_extensionOf fu l C.hl0 dC dI K Z.kI Z.kE Z.kL Z.ca Z.a Z.b Z.oa Z.ob Z.ra Z.sa Z.ha Z.ux Z.uy tx (nI T) er (nI nd) tp fd ee oo tt rr sw hh (xs (i + 1).toNatClampNeg) (xs (i + 2).toNatClampNeg) Z.q o H.size _ e1 1 o (Or.inr (Or.inl ⟨rfl, rfl, rfl⟩))) gL_law_L_extensionOf qL_extensionOf rfl ⟨(Nat.le_of_ble_eq_true rfl), (Nat.le_of_ble_eq_true rfl)⟩ ⟨rfl, rfl⟩ hP hD hS hl.1 rfl rfl (Nat.le_of_ble_eq_true rfl) dL_law_1255 ⟨by omega, by omega⟩ (fun H locs hP hD hS => ?_)
    refine W.widen (k := cells + 8) (n := slots + 48) (by omega) (by omega) ?_
    refine lv_istore (lv' := [(5, .int 1), (0, .ref b), (1, .ref (Z.ca 0)), (2, .ref (Z.ma 0)), (3, .ref Z.q), (4, .int i)]) C.hx C.hb dL_law_1258 hl (by decide) rfl (fun ls hl => ?_)
    refine lv_aload_n C.hx C.hb dL_law_1260 rfl (lv_at hl 3 rfl) ?_
    refine lv_aload_n C.hx C.hb dL_law_1261 rfl (lv_at hl 1 rfl) ?_
    refine lv_iload C.hx C.hb dL_law_1262 (lv_at hl 5 rfl) ?_
    refine lv_iconst (v := 1) C.hx C.hb dL_law_1264 (by decide) ?_
    refine lv_iadd C.hx C.hb dL_law_1265 ?_
    refine lq_x C hS hi1 dL_law_1266 ?_
    refine lv_aload_n C.hx C.hb dL_law_1267 rfl (lv_at hl 1 rfl) ?_
    refine lv_iload C.hx C.hb dL_law_1268 (lv_at hl 5 rfl) ?_
    refine lv_iconst (v := 2) C.hx C.hb dL_law_1270 (by decide) ?_
    refine lv_iadd C.hx C.hb dL_law_1271 ?_
    refine lq_x C hS hi2 dL_law_1272 ?_
    refine lqMi (z := nI 0) (c0 := ⟨nI T, er, nI nd, tp, fd, ee, oo, tt, rr, sw, hh, tx⟩) (m0 := ⟨v, nI T, er, th, nW g, nW a, nW u, nW sl, nW kp, nI mm, nW P0, nW L0, sn, pv, nW r0, gn, vd, nI nd, x1, x2, x3, x4, x5, x6, x7, txt, txd⟩) (m1 := ⟨v, nI T, er, nI 1, nW g, nW a, nW u, nW sl, nW kp, nI mm, nW P0, nW L0, sn, pv, nW r0, gn, vd, nI nd, x1, x2, x3, x4, x5, x6, x7, txt, txd⟩) (o := o) (As := [.int (xs (i + 1).toNatClampNeg), .int (xs (i + 2).toNatClampNeg)]) (rest := []) C (c_X8_extensionOf fu l dC dI Z.kI Z.kB Z.kZ Z.ma v (nI T) er th (nW g) (nW a) (nW u) (nW sl) (nW kp) (nI mm) (nW P0) (nW L0) sn pv (nW r0) gn vd (nI nd) x1 x2 x3 x4 x5 x6 x7 txt txd (xs (i + 1).toNatClampNeg) (xs (i + 2).toNatClampNeg) H.size _ e2) gL_law_X8_extensionOf qX8_extensionOf rfl ⟨(Nat.le_of_ble_eq_true rfl), (Nat.le_of_ble_eq_true rfl)⟩ ⟨rfl, rfl⟩ hP hD hS hl.1 rfl rfl (Nat.le_of_ble_eq_true rfl) dL_law_1273 ⟨by omega, by omega⟩ (fun H locs hP hD hS => ?_)
    refine lv_istore (lv' := [(6, .int (nI 0)), (5, .int 1), (0, .ref b), (1, .ref (Z.ca 0)), (2, .ref (Z.ma 0)), (3, .ref Z.q), (4, .int i)]) C.hx C.hb dL_law_1276 hl (by decide) rfl (fun ls hl => ?_)
    refine lv_aload_n C.hx C.hb dL_law_1278 rfl (lv_at hl 4 rfl) ?_
    refine lqMo (z := nI 1) (c0 := ⟨nI T, er, nI nd, tp, fd, ee, oo, tt, rr, sw, hh, tx⟩) (m0 := ⟨v, nI T, er, nI 1, nW g, nW a, nW u, nW sl, nW kp, nI mm, nW P0, nW L0, sn, pv, nW r0, gn, vd, nI nd, x1, x2, x3, x4, x5, x6, x7, txt, txd⟩) (o := o) (As := []) (rest := []) C (c_X8_thrown l dC dI Z.kI Z.kB Z.kZ Z.ma v (nI T) er (nI 1) (nW g) (nW a) (nW u) (nW sl) (nW kp) (nI mm) (nW P0) (nW L0) sn pv (nW r0) gn vd (nI nd) x1 x2 x3 x4 x5 x6 x7 txt txd (nI 1) rfl) gL_law_X8_thrown qX8_thrown rfl ⟨(Nat.le_of_ble_eq_true rfl), (Nat.le_of_ble_eq_true rfl)⟩ ⟨rfl, rfl⟩ hP hD hS hl.1 rfl rfl (Nat.le_of_ble_eq_true rfl) dL_law_1279 ⟨by omega, by omega⟩ (fun H locs hP hD hS => ?_)
    refine lv_iload C.hx C.hb dL_law_1282 (lv_at hl 1 rfl) ?_
    refine lv_icmp_eq (tgt := 1289) C.hx C.hb dL_law_1284 (by decide) (fun _ => ?_) (fun h9 => absurd (by first | rfl | decide) h9)
    refine lv_iload C.hx C.hb dL_law_1289 (lv_at hl 1 rfl) ?_
    refine lv_if_ne (tgt := 1306) C.hx C.hb dL_law_1291 (by decide) (fun _ => ?_) (fun h9 => absurd h9 (by decide))
    refine lv_goto (tgt := 2318) C.hx C.hb dL_law_1306 (by decide) ?_
    exact KK ⟨nI T, er, nI nd, tp, fd, ee, oo, tt, rr, sw, hh, tx⟩ ⟨v, nI T, er, nI 1, nW g, nW a, nW u, nW sl, nW kp, nI mm, nW P0, nW L0, sn, pv, nW r0, gn, vd, nI nd, x1, x2, x3, x4, x5, x6, x7, txt, txd⟩ o H locs ls ⟨T, er, nd, tp, fd, ee, oo, tt, rr, sw, hh, tx, v, nI 1, g, a, u, sl, kp, mm, P0, L0, sn, pv, r0, gn, vd, x1, x2, x3, x4, x5, x6, x7, txt, txd, bb, rfl, rfl, hTP, hDD, hST, hOF⟩ hP hD hS (lv_sub hl [2, 3, 4, 5, 6] rfl)
  · refine lv_aload_n C.hx C.hb dL_law_1241 rfl (lv_at hl 1 rfl) ?_
    refine lv_aload_n C.hx C.hb dL_law_1242 rfl (lv_at hl 0 rfl) ?_
    refine lv_iload C.hx C.hb dL_law_1243 (lv_at hl 4 rfl) ?_
    refine lv_iconst (v := 1) C.hx C.hb dL_law_1245 (by decide) ?_
    refine lv_iadd C.hx C.hb dL_law_1246 ?_
    refine lq_x C hS hi1 dL_law_1247 ?_
    refine lv_aload_n C.hx C.hb dL_law_1248 rfl (lv_at hl 0 rfl) ?_
    refine lv_iload C.hx C.hb dL_law_1249 (lv_at hl 4 rfl) ?_
    refine lv_iconst (v := 2) C.hx C.hb dL_law_1251 (by decide) ?_
    refine lv_iadd C.hx C.hb dL_law_1252 ?_
    refine lq_x C hS hi2 dL_law_1253 ?_
    refine lv_aload_n C.hx C.hb dL_law_1254 rfl (lv_at hl 3 rfl) ?_
    refine lqL (r := 2) (c0 := ⟨nI T, er, nI nd, tp, fd, ee, oo, tt, rr, sw, hh, tx⟩) (c1 := ⟨nI T, er, nI nd, tp, fd, ee, oo, tt, rr, sw, hh, tx⟩) (m0 := ⟨v, nI T, er, th, nW g, nW a, nW u, nW sl, nW kp, nI mm, nW P0, nW L0, sn, pv, nW r0, gn, vd, nI nd, x1, x2, x3, x4, x5, x6, x7, txt, txd⟩) (o := o) (o1 := o) (As := [.ref (Z.ca 0), .int (xs (i + 1).toNatClampNeg), .int (xs (i + 2).toNatClampNeg), .ref Z.q]) (rest := []) C (c_L_extensionOf fu l C.hl0 dC dI K Z.kI Z.kE Z.kL Z.ca Z.a Z.b Z.oa Z.ob Z.ra Z.sa Z.ha Z.ux Z.uy tx (nI T) er (nI nd) tp fd ee oo tt rr sw hh (xs (i + 1).toNatClampNeg) (xs (i + 2).toNatClampNeg) Z.q o H.size _ e1 2 o (Or.inr (Or.inr (Or.inl ⟨rfl, rfl, rfl⟩)))) gL_law_L_extensionOf qL_extensionOf rfl ⟨(Nat.le_of_ble_eq_true rfl), (Nat.le_of_ble_eq_true rfl)⟩ ⟨rfl, rfl⟩ hP hD hS hl.1 rfl rfl (Nat.le_of_ble_eq_true rfl) dL_law_1255 ⟨by omega, by omega⟩ (fun H locs hP hD hS => ?_)
    refine W.widen (k := cells + 8) (n := slots + 48) (by omega) (by omega) ?_
    refine lv_istore (lv' := [(5, .int 2), (0, .ref b), (1, .ref (Z.ca 0)), (2, .ref (Z.ma 0)), (3, .ref Z.q), (4, .int i)]) C.hx C.hb dL_law_1258 hl (by decide) rfl (fun ls hl => ?_)
    refine lv_aload_n C.hx C.hb dL_law_1260 rfl (lv_at hl 3 rfl) ?_
    refine lv_aload_n C.hx C.hb dL_law_1261 rfl (lv_at hl 1 rfl) ?_
    refine lv_iload C.hx C.hb dL_law_1262 (lv_at hl 5 rfl) ?_
    refine lv_iconst (v := 1) C.hx C.hb dL_law_1264 (by decide) ?_
    refine lv_iadd C.hx C.hb dL_law_1265 ?_
    refine lq_x C hS hi1 dL_law_1266 ?_
    refine lv_aload_n C.hx C.hb dL_law_1267 rfl (lv_at hl 1 rfl) ?_
    refine lv_iload C.hx C.hb dL_law_1268 (lv_at hl 5 rfl) ?_
    refine lv_iconst (v := 2) C.hx C.hb dL_law_1270 (by decide) ?_
    refine lv_iadd C.hx C.hb dL_law_1271 ?_
    refine lq_x C hS hi2 dL_law_1272 ?_
    refine lqMi (z := nI 0) (c0 := ⟨nI T, er, nI nd, tp, fd, ee, oo, tt, rr, sw, hh, tx⟩) (m0 := ⟨v, nI T, er, th, nW g, nW a, nW u, nW sl, nW kp, nI mm, nW P0, nW L0, sn, pv, nW r0, gn, vd, nI nd, x1, x2, x3, x4, x5, x6, x7, txt, txd⟩) (m1 := ⟨v, nI T, er, nI 2, nW g, nW a, nW u, nW sl, nW kp, nI mm, nW P0, nW L0, sn, pv, nW r0, gn, vd, nI nd, x1, x2, x3, x4, x5, x6, x7, txt, txd⟩) (o := o) (As := [.int (xs (i + 1).toNatClampNeg), .int (xs (i + 2).toNatClampNeg)]) (rest := []) C (c_X8_extensionOf fu l dC dI Z.kI Z.kB Z.kZ Z.ma v (nI T) er th (nW g) (nW a) (nW u) (nW sl) (nW kp) (nI mm) (nW P0) (nW L0) sn pv (nW r0) gn vd (nI nd) x1 x2 x3 x4 x5 x6 x7 txt txd (xs (i + 1).toNatClampNeg) (xs (i + 2).toNatClampNeg) H.size _ e2) gL_law_X8_extensionOf qX8_extensionOf rfl ⟨(Nat.le_of_ble_eq_true rfl), (Nat.le_of_ble_eq_true rfl)⟩ ⟨rfl, rfl⟩ hP hD hS hl.1 rfl rfl (Nat.le_of_ble_eq_true rfl) dL_law_1273 ⟨by omega, by omega⟩ (fun H locs hP hD hS => ?_)
    refine lv_istore (lv' := [(6, .int (nI 0)), (5, .int 2), (0, .ref b), (1, .ref (Z.ca 0)), (2, .ref (Z.ma 0)), (3, .ref Z.q), (4, .int i)]) C.hx C.hb dL_law_1276 hl (by decide) rfl (fun ls hl => ?_)
    refine lv_aload_n C.hx C.hb dL_law_1278 rfl (lv_at hl 4 rfl) ?_
    refine lqMo (z := nI 2) (c0 := ⟨nI T, er, nI nd, tp, fd, ee, oo, tt, rr, sw, hh, tx⟩) (m0 := ⟨v, nI T, er, nI 2, nW g, nW a, nW u, nW sl, nW kp, nI mm, nW P0, nW L0, sn, pv, nW r0, gn, vd, nI nd, x1, x2, x3, x4, x5, x6, x7, txt, txd⟩) (o := o) (As := []) (rest := []) C (c_X8_thrown l dC dI Z.kI Z.kB Z.kZ Z.ma v (nI T) er (nI 2) (nW g) (nW a) (nW u) (nW sl) (nW kp) (nI mm) (nW P0) (nW L0) sn pv (nW r0) gn vd (nI nd) x1 x2 x3 x4 x5 x6 x7 txt txd (nI 2) rfl) gL_law_X8_thrown qX8_thrown rfl ⟨(Nat.le_of_ble_eq_true rfl), (Nat.le_of_ble_eq_true rfl)⟩ ⟨rfl, rfl⟩ hP hD hS hl.1 rfl rfl (Nat.le_of_ble_eq_true rfl) dL_law_1279 ⟨by omega, by omega⟩ (fun H locs hP hD hS => ?_)
    refine lv_iload C.hx C.hb dL_law_1282 (lv_at hl 1 rfl) ?_
    refine lv_icmp_eq (tgt := 1289) C.hx C.hb dL_law_1284 (by decide) (fun _ => ?_) (fun h9 => absurd (by first | rfl | decide) h9)
    refine lv_iload C.hx C.hb dL_law_1289 (lv_at hl 1 rfl) ?_
    refine lv_if_ne (tgt := 1306) C.hx C.hb dL_law_1291 (by decide) (fun _ => ?_) (fun h9 => absurd h9 (by decide))
    refine lv_goto (tgt := 2318) C.hx C.hb dL_law_1306 (by decide) ?_
    exact KK ⟨nI T, er, nI nd, tp, fd, ee, oo, tt, rr, sw, hh, tx⟩ ⟨v, nI T, er, nI 2, nW g, nW a, nW u, nW sl, nW kp, nI mm, nW P0, nW L0, sn, pv, nW r0, gn, vd, nI nd, x1, x2, x3, x4, x5, x6, x7, txt, txd⟩ o H locs ls ⟨T, er, nd, tp, fd, ee, oo, tt, rr, sw, hh, tx, v, nI 2, g, a, u, sl, kp, mm, P0, L0, sn, pv, r0, gn, vd, x1, x2, x3, x4, x5, x6, x7, txt, txd, bb, rfl, rfl, hTP, hDD, hST, hOF⟩ hP hD hS (lv_sub hl [2, 3, 4, 5, 6] rfl)
  · refine lv_aload_n C.hx C.hb dL_law_1241 rfl (lv_at hl 1 rfl) ?_
    refine lv_aload_n C.hx C.hb dL_law_1242 rfl (lv_at hl 0 rfl) ?_
    refine lv_iload C.hx C.hb dL_law_1243 (lv_at hl 4 rfl) ?_
    refine lv_iconst (v := 1) C.hx C.hb dL_law_1245 (by decide) ?_
    refine lv_iadd C.hx C.hb dL_law_1246 ?_
    refine lq_x C hS hi1 dL_law_1247 ?_
    refine lv_aload_n C.hx C.hb dL_law_1248 rfl (lv_at hl 0 rfl) ?_
    refine lv_iload C.hx C.hb dL_law_1249 (lv_at hl 4 rfl) ?_
    refine lv_iconst (v := 2) C.hx C.hb dL_law_1251 (by decide) ?_
    refine lv_iadd C.hx C.hb dL_law_1252 ?_
    refine lq_x C hS hi2 dL_law_1253 ?_
    refine lv_aload_n C.hx C.hb dL_law_1254 rfl (lv_at hl 3 rfl) ?_
    refine lqL (r := 3) (c0 := ⟨nI T, er, nI nd, tp, fd, ee, oo, tt, rr, sw, hh, tx⟩) (c1 := ⟨nI T, er, nI nd, tp, fd, ee, oo, tt, rr, sw, hh, tx⟩) (m0 := ⟨v, nI T, er, th, nW g, nW a, nW u, nW sl, nW kp, nI mm, nW P0, nW L0, sn, pv, nW r0, gn, vd, nI nd, x1, x2, x3, x4, x5, x6, x7, txt, txd⟩) (o := o) (o1 := o) (As := [.ref (Z.ca 0), .int (xs (i + 1).toNatClampNeg), .int (xs (i + 2).toNatClampNeg), .ref Z.q]) (rest := []) C (c_L_extensionOf fu l C.hl0 dC dI K Z.kI Z.kE Z.kL Z.ca Z.a Z.b Z.oa Z.ob Z.ra Z.sa Z.ha Z.ux Z.uy tx (nI T) er (nI nd) tp fd ee oo tt rr sw hh (xs (i + 1).toNatClampNeg) (xs (i + 2).toNatClampNeg) Z.q o H.size _ e1 3 o (Or.inr (Or.inr (Or.inr ⟨rfl, rfl, rfl⟩)))) gL_law_L_extensionOf qL_extensionOf rfl ⟨(Nat.le_of_ble_eq_true rfl), (Nat.le_of_ble_eq_true rfl)⟩ ⟨rfl, rfl⟩ hP hD hS hl.1 rfl rfl (Nat.le_of_ble_eq_true rfl) dL_law_1255 ⟨by omega, by omega⟩ (fun H locs hP hD hS => ?_)
    refine W.widen (k := cells + 8) (n := slots + 48) (by omega) (by omega) ?_
    refine lv_istore (lv' := [(5, .int 3), (0, .ref b), (1, .ref (Z.ca 0)), (2, .ref (Z.ma 0)), (3, .ref Z.q), (4, .int i)]) C.hx C.hb dL_law_1258 hl (by decide) rfl (fun ls hl => ?_)
    refine lv_aload_n C.hx C.hb dL_law_1260 rfl (lv_at hl 3 rfl) ?_
    refine lv_aload_n C.hx C.hb dL_law_1261 rfl (lv_at hl 1 rfl) ?_
    refine lv_iload C.hx C.hb dL_law_1262 (lv_at hl 5 rfl) ?_
    refine lv_iconst (v := 1) C.hx C.hb dL_law_1264 (by decide) ?_
    refine lv_iadd C.hx C.hb dL_law_1265 ?_
    refine lq_x C hS hi1 dL_law_1266 ?_
    refine lv_aload_n C.hx C.hb dL_law_1267 rfl (lv_at hl 1 rfl) ?_
    refine lv_iload C.hx C.hb dL_law_1268 (lv_at hl 5 rfl) ?_
    refine lv_iconst (v := 2) C.hx C.hb dL_law_1270 (by decide) ?_
    refine lv_iadd C.hx C.hb dL_law_1271 ?_
    refine lq_x C hS hi2 dL_law_1272 ?_
    refine lqMi (z := nI 0) (c0 := ⟨nI T, er, nI nd, tp, fd, ee, oo, tt, rr, sw, hh, tx⟩) (m0 := ⟨v, nI T, er, th, nW g, nW a, nW u, nW sl, nW kp, nI mm, nW P0, nW L0, sn, pv, nW r0, gn, vd, nI nd, x1, x2, x3, x4, x5, x6, x7, txt, txd⟩) (m1 := ⟨v, nI T, er, nI 3, nW g, nW a, nW u, nW sl, nW kp, nI mm, nW P0, nW L0, sn, pv, nW r0, gn, vd, nI nd, x1, x2, x3, x4, x5, x6, x7, txt, txd⟩) (o := o) (As := [.int (xs (i + 1).toNatClampNeg), .int (xs (i + 2).toNatClampNeg)]) (rest := []) C (c_X8_extensionOf fu l dC dI Z.kI Z.kB Z.kZ Z.ma v (nI T) er th (nW g) (nW a) (nW u) (nW sl) (nW kp) (nI mm) (nW P0) (nW L0) sn pv (nW r0) gn vd (nI nd) x1 x2 x3 x4 x5 x6 x7 txt txd (xs (i + 1).toNatClampNeg) (xs (i + 2).toNatClampNeg) H.size _ e2) gL_law_X8_extensionOf qX8_extensionOf rfl ⟨(Nat.le_of_ble_eq_true rfl), (Nat.le_of_ble_eq_true rfl)⟩ ⟨rfl, rfl⟩ hP hD hS hl.1 rfl rfl (Nat.le_of_ble_eq_true rfl) dL_law_1273 ⟨by omega, by omega⟩ (fun H locs hP hD hS => ?_)
    refine lv_istore (lv' := [(6, .int (nI 0)), (5, .int 3), (0, .ref b), (1, .ref (Z.ca 0)), (2, .ref (Z.ma 0)), (3, .ref Z.q), (4, .int i)]) C.hx C.hb dL_law_1276 hl (by decide) rfl (fun ls hl => ?_)
    refine lv_aload_n C.hx C.hb dL_law_1278 rfl (lv_at hl 4 rfl) ?_
    refine lqMo (z := nI 3) (c0 := ⟨nI T, er, nI nd, tp, fd, ee, oo, tt, rr, sw, hh, tx⟩) (m0 := ⟨v, nI T, er, nI 3, nW g, nW a, nW u, nW sl, nW kp, nI mm, nW P0, nW L0, sn, pv, nW r0, gn, vd, nI nd, x1, x2, x3, x4, x5, x6, x7, txt, txd⟩) (o := o) (As := []) (rest := []) C (c_X8_thrown l dC dI Z.kI Z.kB Z.kZ Z.ma v (nI T) er (nI 3) (nW g) (nW a) (nW u) (nW sl) (nW kp) (nI mm) (nW P0) (nW L0) sn pv (nW r0) gn vd (nI nd) x1 x2 x3 x4 x5 x6 x7 txt txd (nI 3) rfl) gL_law_X8_thrown qX8_thrown rfl ⟨(Nat.le_of_ble_eq_true rfl), (Nat.le_of_ble_eq_true rfl)⟩ ⟨rfl, rfl⟩ hP hD hS hl.1 rfl rfl (Nat.le_of_ble_eq_true rfl) dL_law_1279 ⟨by omega, by omega⟩ (fun H locs hP hD hS => ?_)
    refine lv_iload C.hx C.hb dL_law_1282 (lv_at hl 1 rfl) ?_
    refine lv_icmp_eq (tgt := 1289) C.hx C.hb dL_law_1284 (by decide) (fun _ => ?_) (fun h9 => absurd (by first | rfl | decide) h9)
    refine lv_iload C.hx C.hb dL_law_1289 (lv_at hl 1 rfl) ?_
    refine lv_if_ne (tgt := 1306) C.hx C.hb dL_law_1291 (by decide) (fun _ => ?_) (fun h9 => absurd h9 (by decide))
    refine lv_goto (tgt := 2318) C.hx C.hb dL_law_1306 (by decide) ?_
    exact KK ⟨nI T, er, nI nd, tp, fd, ee, oo, tt, rr, sw, hh, tx⟩ ⟨v, nI T, er, nI 3, nW g, nW a, nW u, nW sl, nW kp, nI mm, nW P0, nW L0, sn, pv, nW r0, gn, vd, nI nd, x1, x2, x3, x4, x5, x6, x7, txt, txd⟩ o H locs ls ⟨T, er, nd, tp, fd, ee, oo, tt, rr, sw, hh, tx, v, nI 3, g, a, u, sl, kp, mm, P0, L0, sn, pv, r0, gn, vd, x1, x2, x3, x4, x5, x6, x7, txt, txd, bb, rfl, rfl, hTP, hDD, hST, hOF⟩ hP hD hS (lv_sub hl [2, 3, 4, 5, 6] rfl)
set_option maxHeartbeats 4000000 in
set_option maxRecDepth 100000 in
theorem lc_28 (C : LC p l s m args c A0 K dC dI Z b L xs) (hf : 20000 ≤ fu) (hR : REL c0 m0) (hP : va_P (dC, dI) vwCl (LW Z c0 m0 o) H) (hD : va_D A0 (LW Z c0 m0 o)) (hS : va_S A0 s.heap H locs) (hl : lv_has ls 9 [(0, .ref b), (1, .ref (Z.ca 0)), (2, .ref (Z.ma 0)), (3, .ref Z.q), (4, .int i)]) (hi1 : vp_in (i + 1) L) (hcl : cells + 8 ≤ room_1.cells ∧ slots + 48 ≤ room_1.slots) (KK : LKK p l e s m args below meth c (cells + 8) (slots + 48) Q A0 dC dI Z b i) : W p l e room_1 s m args below meth c H locs cells slots Q (F0 m 1309 ls []) := by
  obtain ⟨hc1, hc2⟩ := hcl
  obtain ⟨T, er, nd, tp, fd, ee, oo, tt, rr, sw, hh, tx, v, th, g, a, u, sl, kp, mm, P0, L0, sn, pv, r0, gn, vd, x1, x2, x3, x4, x5, x6, x7, txt, txd, bb, rfl, rfl, hTP, hDD, hST, hOF⟩ := hR
  have hRE := hST.1
  have hG := hST.2.1
  rcases t_extensionCount fu hf th hRE hG tp fd oo tt rr sw hh (xs (i + 1).toNatClampNeg) with ⟨w, e1, e2⟩ | ⟨e1, e2⟩
  · refine lv_aload_n C.hx C.hb dL_law_1309 rfl (lv_at hl 1 rfl) ?_
    refine lv_aload_n C.hx C.hb dL_law_1310 rfl (lv_at hl 0 rfl) ?_
    refine lv_iload C.hx C.hb dL_law_1311 (lv_at hl 4 rfl) ?_
    refine lv_iconst (v := 1) C.hx C.hb dL_law_1313 (by decide) ?_
    refine lv_iadd C.hx C.hb dL_law_1314 ?_
    refine lq_x C hS hi1 dL_law_1315 ?_
    refine lv_aload_n C.hx C.hb dL_law_1316 rfl (lv_at hl 3 rfl) ?_
    refine lqL (r := 0) (c0 := ⟨nI T, er, nI nd, tp, fd, ee, oo, tt, rr, sw, hh, tx⟩) (c1 := ⟨nI T, er, nI nd, tp, fd, ee, oo, tt, rr, sw, hh, tx⟩) (m0 := ⟨v, nI T, er, th, nW g, nW a, nW u, nW sl, nW kp, nI mm, nW P0, nW L0, sn, pv, nW r0, gn, vd, nI nd, x1, x2, x3, x4, x5, x6, x7, txt, txd⟩) (o := o) (o1 := (vp_updL o 0 w.toInt64)) (As := [.ref (Z.ca 0), .int (xs (i + 1).toNatClampNeg), .ref Z.q]) (rest := []) C (c_L_extensionCount fu l C.hl0 dC dI K Z.kI Z.kE Z.kL Z.ca Z.a Z.b Z.oa Z.ob Z.ra Z.sa Z.ha Z.ux Z.uy tx (nI T) er (nI nd) tp fd ee oo tt rr sw hh (xs (i + 1).toNatClampNeg) Z.q o H.size _ e1 0 (vp_updL o 0 w.toInt64) (Or.inl ⟨w, rfl, rfl, rfl⟩)) gL_law_L_extensionCount qL_extensionCount rfl ⟨(Nat.le_of_ble_eq_true rfl), (Nat.le_of_ble_eq_true rfl)⟩ ⟨rfl, rfl⟩ hP hD hS hl.1 rfl rfl (Nat.le_of_ble_eq_true rfl) dL_law_1317 ⟨by omega, by omega⟩ (fun H locs hP hD hS => ?_)
    refine W.widen (k := cells + 8) (n := slots + 48) (by omega) (by omega) ?_
    refine lv_istore (lv' := [(5, .int 0), (0, .ref b), (1, .ref (Z.ca 0)), (2, .ref (Z.ma 0)), (3, .ref Z.q), (4, .int i)]) C.hx C.hb dL_law_1320 hl (by decide) rfl (fun ls hl => ?_)
    refine lv_aload_n C.hx C.hb dL_law_1322 rfl (lv_at hl 3 rfl) ?_
    refine lv_aload_n C.hx C.hb dL_law_1323 rfl (lv_at hl 1 rfl) ?_
    refine lv_iload C.hx C.hb dL_law_1324 (lv_at hl 5 rfl) ?_
    refine lv_iconst (v := 1) C.hx C.hb dL_law_1326 (by decide) ?_
    refine lv_iadd C.hx C.hb dL_law_1327 ?_
    refine lq_x C hS hi1 dL_law_1328 ?_
    refine lqMi (z := w) (c0 := ⟨nI T, er, nI nd, tp, fd, ee, oo, tt, rr, sw, hh, tx⟩) (m0 := ⟨v, nI T, er, th, nW g, nW a, nW u, nW sl, nW kp, nI mm, nW P0, nW L0, sn, pv, nW r0, gn, vd, nI nd, x1, x2, x3, x4, x5, x6, x7, txt, txd⟩) (m1 := ⟨v, nI T, er, nI 0, nW g, nW a, nW u, nW sl, nW kp, nI mm, nW P0, nW L0, sn, pv, nW r0, gn, vd, nI nd, x1, x2, x3, x4, x5, x6, x7, txt, txd⟩) (o := (vp_updL o 0 w.toInt64)) (As := [.int (xs (i + 1).toNatClampNeg)]) (rest := []) C (c_X8_extensionCount fu l dC dI Z.kI Z.kB Z.kZ Z.ma v (nI T) er th (nW g) (nW a) (nW u) (nW sl) (nW kp) (nI mm) (nW P0) (nW L0) sn pv (nW r0) gn vd (nI nd) x1 x2 x3 x4 x5 x6 x7 txt txd (xs (i + 1).toNatClampNeg) H.size _ e2) gL_law_X8_extensionCount qX8_extensionCount rfl ⟨(Nat.le_of_ble_eq_true rfl), (Nat.le_of_ble_eq_true rfl)⟩ ⟨rfl, rfl⟩ hP hD hS hl.1 rfl rfl (Nat.le_of_ble_eq_true rfl) dL_law_1329 ⟨by omega, by omega⟩ (fun H locs hP hD hS => ?_)
    refine lv_istore (lv' := [(6, .int w), (5, .int 0), (0, .ref b), (1, .ref (Z.ca 0)), (2, .ref (Z.ma 0)), (3, .ref Z.q), (4, .int i)]) C.hx C.hb dL_law_1332 hl (by decide) rfl (fun ls hl => ?_)
    refine lv_aload_n C.hx C.hb dL_law_1334 rfl (lv_at hl 4 rfl) ?_
    refine lqMo (z := nI 0) (c0 := ⟨nI T, er, nI nd, tp, fd, ee, oo, tt, rr, sw, hh, tx⟩) (m0 := ⟨v, nI T, er, nI 0, nW g, nW a, nW u, nW sl, nW kp, nI mm, nW P0, nW L0, sn, pv, nW r0, gn, vd, nI nd, x1, x2, x3, x4, x5, x6, x7, txt, txd⟩) (o := (vp_updL o 0 w.toInt64)) (As := []) (rest := []) C (c_X8_thrown l dC dI Z.kI Z.kB Z.kZ Z.ma v (nI T) er (nI 0) (nW g) (nW a) (nW u) (nW sl) (nW kp) (nI mm) (nW P0) (nW L0) sn pv (nW r0) gn vd (nI nd) x1 x2 x3 x4 x5 x6 x7 txt txd (nI 0) rfl) gL_law_X8_thrown qX8_thrown rfl ⟨(Nat.le_of_ble_eq_true rfl), (Nat.le_of_ble_eq_true rfl)⟩ ⟨rfl, rfl⟩ hP hD hS hl.1 rfl rfl (Nat.le_of_ble_eq_true rfl) dL_law_1335 ⟨by omega, by omega⟩ (fun H locs hP hD hS => ?_)
    refine lv_iload C.hx C.hb dL_law_1338 (lv_at hl 1 rfl) ?_
    refine lv_icmp_eq (tgt := 1345) C.hx C.hb dL_law_1340 (by decide) (fun _ => ?_) (fun h9 => absurd (by first | rfl | decide) h9)
    refine lv_iload C.hx C.hb dL_law_1345 (lv_at hl 1 rfl) ?_
    refine lv_if_ne (tgt := 1362) C.hx C.hb dL_law_1347 (by decide) (fun h9 => absurd rfl h9) (fun _ => ?_)
    refine lv_aload_n C.hx C.hb dL_law_1350 rfl (lv_at hl 5 rfl) ?_
    refine lv_iconst (v := 0) C.hx C.hb dL_law_1351 (by decide) ?_
    refine lq_o C hP dL_law_1352 ?_
    refine lv_iload C.hx C.hb dL_law_1353 (lv_at hl 0 rfl) ?_
    refine lv_i2l (v := w.toInt64) C.hx C.hb dL_law_1355 rfl ?_
    refine W.lcmp C.hx C.hb dL_law_1356 ?_
    refine lv_if_eq (tgt := 1362) C.hx C.hb dL_law_1357 (by decide) (fun _ => ?_) (fun h9 => absurd (cmp_self _) h9)
    refine lv_goto (tgt := 2318) C.hx C.hb dL_law_1362 (by decide) ?_
    exact KK ⟨nI T, er, nI nd, tp, fd, ee, oo, tt, rr, sw, hh, tx⟩ ⟨v, nI T, er, nI 0, nW g, nW a, nW u, nW sl, nW kp, nI mm, nW P0, nW L0, sn, pv, nW r0, gn, vd, nI nd, x1, x2, x3, x4, x5, x6, x7, txt, txd⟩ (vp_updL o 0 w.toInt64) H locs ls ⟨T, er, nd, tp, fd, ee, oo, tt, rr, sw, hh, tx, v, nI 0, g, a, u, sl, kp, mm, P0, L0, sn, pv, r0, gn, vd, x1, x2, x3, x4, x5, x6, x7, txt, txd, bb, rfl, rfl, hTP, hDD, hST, hOF⟩ hP hD hS (lv_sub hl [2, 3, 4, 5, 6] rfl)
  · refine lv_aload_n C.hx C.hb dL_law_1309 rfl (lv_at hl 1 rfl) ?_
    refine lv_aload_n C.hx C.hb dL_law_1310 rfl (lv_at hl 0 rfl) ?_
    refine lv_iload C.hx C.hb dL_law_1311 (lv_at hl 4 rfl) ?_
    refine lv_iconst (v := 1) C.hx C.hb dL_law_1313 (by decide) ?_
    refine lv_iadd C.hx C.hb dL_law_1314 ?_
    refine lq_x C hS hi1 dL_law_1315 ?_
    refine lv_aload_n C.hx C.hb dL_law_1316 rfl (lv_at hl 3 rfl) ?_
    refine lqL (r := 1) (c0 := ⟨nI T, er, nI nd, tp, fd, ee, oo, tt, rr, sw, hh, tx⟩) (c1 := ⟨nI T, er, nI nd, tp, fd, ee, oo, tt, rr, sw, hh, tx⟩) (m0 := ⟨v, nI T, er, th, nW g, nW a, nW u, nW sl, nW kp, nI mm, nW P0, nW L0, sn, pv, nW r0, gn, vd, nI nd, x1, x2, x3, x4, x5, x6, x7, txt, txd⟩) (o := o) (o1 := o) (As := [.ref (Z.ca 0), .int (xs (i + 1).toNatClampNeg), .ref Z.q]) (rest := []) C (c_L_extensionCount fu l C.hl0 dC dI K Z.kI Z.kE Z.kL Z.ca Z.a Z.b Z.oa Z.ob Z.ra Z.sa Z.ha Z.ux Z.uy tx (nI T) er (nI nd) tp fd ee oo tt rr sw hh (xs (i + 1).toNatClampNeg) Z.q o H.size _ e1 1 o (Or.inr ⟨rfl, rfl, rfl⟩)) gL_law_L_extensionCount qL_extensionCount rfl ⟨(Nat.le_of_ble_eq_true rfl), (Nat.le_of_ble_eq_true rfl)⟩ ⟨rfl, rfl⟩ hP hD hS hl.1 rfl rfl (Nat.le_of_ble_eq_true rfl) dL_law_1317 ⟨by omega, by omega⟩ (fun H locs hP hD hS => ?_)
    refine W.widen (k := cells + 8) (n := slots + 48) (by omega) (by omega) ?_
    refine lv_istore (lv' := [(5, .int 1), (0, .ref b), (1, .ref (Z.ca 0)), (2, .ref (Z.ma 0)), (3, .ref Z.q), (4, .int i)]) C.hx C.hb dL_law_1320 hl (by decide) rfl (fun ls hl => ?_)
    refine lv_aload_n C.hx C.hb dL_law_1322 rfl (lv_at hl 3 rfl) ?_
    refine lv_aload_n C.hx C.hb dL_law_1323 rfl (lv_at hl 1 rfl) ?_
    refine lv_iload C.hx C.hb dL_law_1324 (lv_at hl 5 rfl) ?_
    refine lv_iconst (v := 1) C.hx C.hb dL_law_1326 (by decide) ?_
    refine lv_iadd C.hx C.hb dL_law_1327 ?_
    refine lq_x C hS hi1 dL_law_1328 ?_
    refine lqMi (z := nI 0) (c0 := ⟨nI T, er, nI nd, tp, fd, ee, oo, tt, rr, sw, hh, tx⟩) (m0 := ⟨v, nI T, er, th, nW g, nW a, nW u, nW sl, nW kp, nI mm, nW P0, nW L0, sn, pv, nW r0, gn, vd, nI nd, x1, x2, x3, x4, x5, x6, x7, txt, txd⟩) (m1 := ⟨v, nI T, er, nI 1, nW g, nW a, nW u, nW sl, nW kp, nI mm, nW P0, nW L0, sn, pv, nW r0, gn, vd, nI nd, x1, x2, x3, x4, x5, x6, x7, txt, txd⟩) (o := o) (As := [.int (xs (i + 1).toNatClampNeg)]) (rest := []) C (c_X8_extensionCount fu l dC dI Z.kI Z.kB Z.kZ Z.ma v (nI T) er th (nW g) (nW a) (nW u) (nW sl) (nW kp) (nI mm) (nW P0) (nW L0) sn pv (nW r0) gn vd (nI nd) x1 x2 x3 x4 x5 x6 x7 txt txd (xs (i + 1).toNatClampNeg) H.size _ e2) gL_law_X8_extensionCount qX8_extensionCount rfl ⟨(Nat.le_of_ble_eq_true rfl), (Nat.le_of_ble_eq_true rfl)⟩ ⟨rfl, rfl⟩ hP hD hS hl.1 rfl rfl (Nat.le_of_ble_eq_true rfl) dL_law_1329 ⟨by omega, by omega⟩ (fun H locs hP hD hS => ?_)
    refine lv_istore (lv' := [(6, .int (nI 0)), (5, .int 1), (0, .ref b), (1, .ref (Z.ca 0)), (2, .ref (Z.ma 0)), (3, .ref Z.q), (4, .int i)]) C.hx C.hb dL_law_1332 hl (by decide) rfl (fun ls hl => ?_)
    refine lv_aload_n C.hx C.hb dL_law_1334 rfl (lv_at hl 4 rfl) ?_
    refine lqMo (z := nI 1) (c0 := ⟨nI T, er, nI nd, tp, fd, ee, oo, tt, rr, sw, hh, tx⟩) (m0 := ⟨v, nI T, er, nI 1, nW g, nW a, nW u, nW sl, nW kp, nI mm, nW P0, nW L0, sn, pv, nW r0, gn, vd, nI nd, x1, x2, x3, x4, x5, x6, x7, txt, txd⟩) (o := o) (As := []) (rest := []) C (c_X8_thrown l dC dI Z.kI Z.kB Z.kZ Z.ma v (nI T) er (nI 1) (nW g) (nW a) (nW u) (nW sl) (nW kp) (nI mm) (nW P0) (nW L0) sn pv (nW r0) gn vd (nI nd) x1 x2 x3 x4 x5 x6 x7 txt txd (nI 1) rfl) gL_law_X8_thrown qX8_thrown rfl ⟨(Nat.le_of_ble_eq_true rfl), (Nat.le_of_ble_eq_true rfl)⟩ ⟨rfl, rfl⟩ hP hD hS hl.1 rfl rfl (Nat.le_of_ble_eq_true rfl) dL_law_1335 ⟨by omega, by omega⟩ (fun H locs hP hD hS => ?_)
    refine lv_iload C.hx C.hb dL_law_1338 (lv_at hl 1 rfl) ?_
    refine lv_icmp_eq (tgt := 1345) C.hx C.hb dL_law_1340 (by decide) (fun _ => ?_) (fun h9 => absurd (by first | rfl | decide) h9)
    refine lv_iload C.hx C.hb dL_law_1345 (lv_at hl 1 rfl) ?_
    refine lv_if_ne (tgt := 1362) C.hx C.hb dL_law_1347 (by decide) (fun _ => ?_) (fun h9 => absurd h9 (by decide))
    refine lv_goto (tgt := 2318) C.hx C.hb dL_law_1362 (by decide) ?_
    exact KK ⟨nI T, er, nI nd, tp, fd, ee, oo, tt, rr, sw, hh, tx⟩ ⟨v, nI T, er, nI 1, nW g, nW a, nW u, nW sl, nW kp, nI mm, nW P0, nW L0, sn, pv, nW r0, gn, vd, nI nd, x1, x2, x3, x4, x5, x6, x7, txt, txd⟩ o H locs ls ⟨T, er, nd, tp, fd, ee, oo, tt, rr, sw, hh, tx, v, nI 1, g, a, u, sl, kp, mm, P0, L0, sn, pv, r0, gn, vd, x1, x2, x3, x4, x5, x6, x7, txt, txd, bb, rfl, rfl, hTP, hDD, hST, hOF⟩ hP hD hS (lv_sub hl [2, 3, 4, 5, 6] rfl)
set_option maxHeartbeats 4000000 in
set_option maxRecDepth 100000 in
theorem lc_29 (C : LC p l s m args c A0 K dC dI Z b L xs) (hf : 20000 ≤ fu) (hR : REL c0 m0) (hP : va_P (dC, dI) vwCl (LW Z c0 m0 o) H) (hD : va_D A0 (LW Z c0 m0 o)) (hS : va_S A0 s.heap H locs) (hl : lv_has ls 9 [(0, .ref b), (1, .ref (Z.ca 0)), (2, .ref (Z.ma 0)), (3, .ref Z.q), (4, .int i)])  (hcl : cells + 8 ≤ room_1.cells ∧ slots + 48 ≤ room_1.slots) (KK : LKK p l e s m args below meth c (cells + 8) (slots + 48) Q A0 dC dI Z b i) : W p l e room_1 s m args below meth c H locs cells slots Q (F0 m 1365 ls []) := by
  obtain ⟨hc1, hc2⟩ := hcl
  obtain ⟨T, er, nd, tp, fd, ee, oo, tt, rr, sw, hh, tx, v, th, g, a, u, sl, kp, mm, P0, L0, sn, pv, r0, gn, vd, x1, x2, x3, x4, x5, x6, x7, txt, txd, bb, rfl, rfl, hTP, hDD, hST, hOF⟩ := hR
  have hRE := hST.1
  have hG := hST.2.1
  obtain ⟨w, e1, e2⟩ := t_longestPhrase fu hf th hRE hG
  refine lv_aload_n C.hx C.hb dL_law_1365 rfl (lv_at hl 1 rfl) ?_
  refine lqRi (z := w) (c0 := ⟨nI T, er, nI nd, tp, fd, ee, oo, tt, rr, sw, hh, tx⟩) (m0 := ⟨v, nI T, er, th, nW g, nW a, nW u, nW sl, nW kp, nI mm, nW P0, nW L0, sn, pv, nW r0, gn, vd, nI nd, x1, x2, x3, x4, x5, x6, x7, txt, txd⟩) (o := o) (As := []) (rest := []) C (c_X7_longestPhrase fu l dC dI Z.kI Z.kE Z.ca Z.a Z.b Z.oa Z.ob Z.ra Z.sa Z.ha Z.ux Z.uy tx (nI T) er (nI nd) tp fd ee oo tt rr sw hh _ e1) gL_law_X7_longestPhrase qX7_longestPhrase rfl ⟨(Nat.le_of_ble_eq_true rfl), (Nat.le_of_ble_eq_true rfl)⟩ ⟨rfl, rfl⟩ hP hD hS hl.1 rfl rfl (Nat.le_of_ble_eq_true rfl) dL_law_1366 ⟨by omega, by omega⟩ (fun H locs hP hD hS => ?_)
  refine lv_aload_n C.hx C.hb dL_law_1369 rfl (lv_at hl 2 rfl) ?_
  refine lqMi (z := w) (c0 := ⟨nI T, er, nI nd, tp, fd, ee, oo, tt, rr, sw, hh, tx⟩) (m0 := ⟨v, nI T, er, th, nW g, nW a, nW u, nW sl, nW kp, nI mm, nW P0, nW L0, sn, pv, nW r0, gn, vd, nI nd, x1, x2, x3, x4, x5, x6, x7, txt, txd⟩) (m1 := ⟨v, nI T, er, nI 0, nW g, nW a, nW u, nW sl, nW kp, nI mm, nW P0, nW L0, sn, pv, nW r0, gn, vd, nI nd, x1, x2, x3, x4, x5, x6, x7, txt, txd⟩) (o := o) (As := []) (rest := [.int w]) C (c_X8_longestPhrase fu l dC dI Z.kI Z.kB Z.kZ Z.ma v (nI T) er th (nW g) (nW a) (nW u) (nW sl) (nW kp) (nI mm) (nW P0) (nW L0) sn pv (nW r0) gn vd (nI nd) x1 x2 x3 x4 x5 x6 x7 txt txd H.size _ e2) gL_law_X8_longestPhrase qX8_longestPhrase rfl ⟨(Nat.le_of_ble_eq_true rfl), (Nat.le_of_ble_eq_true rfl)⟩ ⟨rfl, rfl⟩ hP hD hS hl.1 rfl rfl (Nat.le_of_ble_eq_true rfl) dL_law_1370 ⟨by omega, by omega⟩ (fun H locs hP hD hS => ?_)
  refine lv_icmp_eq (tgt := 2318) C.hx C.hb dL_law_1373 (by decide) (fun _ => ?_) (fun h9 => absurd (by first | rfl | decide) h9)
  refine W.widen (k := cells + 8) (n := slots + 48) (by omega) (by omega) ?_
  exact KK ⟨nI T, er, nI nd, tp, fd, ee, oo, tt, rr, sw, hh, tx⟩ ⟨v, nI T, er, nI 0, nW g, nW a, nW u, nW sl, nW kp, nI mm, nW P0, nW L0, sn, pv, nW r0, gn, vd, nI nd, x1, x2, x3, x4, x5, x6, x7, txt, txd⟩ o H locs ls ⟨T, er, nd, tp, fd, ee, oo, tt, rr, sw, hh, tx, v, nI 0, g, a, u, sl, kp, mm, P0, L0, sn, pv, r0, gn, vd, x1, x2, x3, x4, x5, x6, x7, txt, txd, bb, rfl, rfl, hTP, hDD, hST, hOF⟩ hP hD hS (lv_sub hl [0, 1, 2, 3, 4] rfl)
end LCASES1
