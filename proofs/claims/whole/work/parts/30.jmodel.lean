def J_X8_thrown (v_thrown : Int32) : Option (Int32) :=
 some v_thrown
def J_X8_in (p0 : Int32) (p1 : Int32) (p2 : Int32) : Option (Int32) :=
 if p0 < p1 then
  some (0 : Int32)
 else
  if p2 < p0 then
   some (0 : Int32)
  else
   some (1 : Int32)
def J_X8_more (p0 : Int32) (p1 : Int32) : Option (Int32) :=
 if p0 ≤ p1 then
  some p1
 else
  some p0
def J_X8_throwing (v_thrown : Int32) (p0 : Int32) : Option (Int32 × Int32) :=
 some ((0 : Int32), p0)
def J_X8_told (v_thrown : Int32) (p0 : Int32) : Option (Int32 × Int32) :=
 some (p0, (0 : Int32))
def J_X8_toldIf (v_thrown : Int32) (p0 : Int32) : Option (Int32 × Int32) :=
 if p0 &&& 1 = p0 then some (p0, (0 : Int32)) else none
def J_X8_keepsAside_b2 (fu : Nat) (v_world : Nat → Int32) : Nat → (Nat → Int32) → Int32 → Option ((Nat → Int32))
| 0, _, _ => none
| n + 1, v_aside, y1 =>
 if (1726 : Int32) ≤ y1 then
  some v_aside
 else
  (j_rd 1726 v_world y1).bind fun z2 =>
  (j_wr 1726 v_aside y1 z2).bind fun g4 =>
  J_X8_keepsAside_b2 fu v_world n g4 (y1 + 1)
def J_X8_keepsAside (fu : Nat) (v_world : Nat → Int32) (v_aside : Nat → Int32) : Option ((Nat → Int32)) :=
 J_X8_keepsAside_b2 fu v_world fu v_aside (0 : Int32)
def J_X8_takesBack_b2 (fu : Nat) (v_aside : Nat → Int32) : Nat → (Nat → Int32) → Int32 → Option ((Nat → Int32))
| 0, _, _ => none
| n + 1, v_world, y1 =>
 if (1726 : Int32) ≤ y1 then
  some v_world
 else
  (j_rd 1726 v_aside y1).bind fun z2 =>
  (j_wr 1726 v_world y1 z2).bind fun g4 =>
  J_X8_takesBack_b2 fu v_aside n g4 (y1 + 1)
def J_X8_takesBack (fu : Nat) (v_world : Nat → Int32) (v_aside : Nat → Int32) : Option ((Nat → Int32)) :=
 J_X8_takesBack_b2 fu v_aside fu v_world (0 : Int32)
def J_X8_changed_b52 (fu : Nat) (v_aside : Nat → Int32) : Nat → Int32 → (Nat → Int32) → Int32 → Int32 → Int32 → Option (Int32 × Int32 × (Nat → Int32) × Int32)
| 0, _, _, _, _, _ => none
| n + 1, v_thrown, v_undone, v_undos, y1, y2 =>
 if (1726 : Int32) ≤ y2 then
  (J_X8_told v_thrown y1).bind fun z3 =>
  some (z3.1, z3.2, v_undone, v_undos + (1 : Int32))
 else
  (j_rd 1726 v_aside y2).bind fun z5 =>
  (j_wr 13808 v_undone (((1726 : Int32) * v_undos) + y2) z5).bind fun g7 =>
  J_X8_changed_b52 fu v_aside n v_thrown g7 v_undos y1 (y2 + 1)
def J_X8_changed_b50 (fu : Nat) (v_aside : Nat → Int32) (v_thrown : Int32) (v_undone : Nat → Int32) (v_undos : Int32) (y1 : Int32) : Option (Int32 × Int32 × (Nat → Int32) × Int32) :=
 J_X8_changed_b52 fu v_aside fu v_thrown v_undone v_undos y1 (0 : Int32)
def J_X8_changed_b11 (fu : Nat) (v_aside : Nat → Int32) : Nat → Int32 → (Nat → Int32) → Int32 → Int32 → Int32 → Option (Int32 × Int32 × (Nat → Int32) × Int32)
| 0, _, _, _, _, _ => none
| n + 1, v_thrown, v_undone, v_undos, y1, y2 =>
 if (12082 : Int32) ≤ y2 then
  J_X8_changed_b50 fu v_aside v_thrown v_undone (v_undos - (1 : Int32)) y1
 else
  (j_rd 13808 v_undone (y2 + (1726 : Int32))).bind fun z10 =>
  (j_wr 13808 v_undone y2 z10).bind fun g12 =>
  J_X8_changed_b11 fu v_aside n v_thrown g12 v_undos y1 (y2 + 1)
def J_X8_changed (fu : Nat) (v_thrown : Int32) (v_aside : Nat → Int32) (v_undone : Nat → Int32) (v_undos : Int32) (p0 : Int32) : Option (Int32 × Int32 × (Nat → Int32) × Int32) :=
 if v_undos = (8 : Int32) then
  J_X8_changed_b11 fu v_aside fu v_thrown v_undone v_undos p0 (0 : Int32)
 else
  J_X8_changed_b50 fu v_aside v_thrown v_undone v_undos p0
def J_X8_undo_b25 (fu : Nat) (v_undone : Nat → Int32) : Nat → Int32 → (Nat → Int32) → Int32 → Int32 → Option (Int32 × Int32 × (Nat → Int32) × Int32)
| 0, _, _, _, _ => none
| n + 1, v_thrown, v_world, v_undos, y1 =>
 if (1726 : Int32) ≤ y1 then
  (J_X8_told v_thrown v_undos).bind fun z5 =>
  some (z5.1, z5.2, v_world, v_undos)
 else
  (j_rd 13808 v_undone (((1726 : Int32) * v_undos) + y1)).bind fun z7 =>
  (j_wr 1726 v_world y1 z7).bind fun g9 =>
  J_X8_undo_b25 fu v_undone n v_thrown g9 v_undos (y1 + 1)
def J_X8_undo (fu : Nat) (v_thrown : Int32) (v_world : Nat → Int32) (v_undone : Nat → Int32) (v_undos : Int32) : Option (Int32 × Int32 × (Nat → Int32) × Int32) :=
 if v_undos = 0 then
  (J_X8_throwing v_thrown (1 : Int32)).bind fun z2 =>
  some (z2.1, z2.2, v_world, v_undos)
 else
  J_X8_undo_b25 fu v_undone fu v_thrown v_world (v_undos - (1 : Int32)) (0 : Int32)
def J_X8_isSlot (p0 : Int32) : Option (Int32) :=
 (J_X8_in p0 (0 : Int32) (1 : Int32)).bind fun z1 =>
 if z1 &&& 1 = z1 then some z1 else none
def J_X8_save_b61 (fu : Nat) (v_world : Nat → Int32) (v_thrown : Int32) (v_slots : Nat → Int32) (v_isKept : Nat → Int32) (y1 : Int32) : Option (Int32 × (Nat → Int32) × (Nat → Int32)) :=
 if v_thrown = 0 then
  (j_wr 2 v_isKept y1 (vp_nar .boolean (1 : Int32))).bind fun g15 =>
  some (v_thrown, v_slots, g15)
 else
  some (v_thrown, v_slots, v_isKept)
def J_X8_save_b23 (fu : Nat) (v_world : Nat → Int32) : Nat → Int32 → (Nat → Int32) → (Nat → Int32) → Int32 → Int32 → Option (Int32 × (Nat → Int32) × (Nat → Int32))
| 0, _, _, _, _, _ => none
| n + 1, v_thrown, v_slots, v_isKept, y1, y3 =>
 if (1726 : Int32) ≤ y3 then
  J_X8_save_b61 fu v_world v_thrown v_slots v_isKept y1
 else
  if v_thrown = 0 then
   (j_rd 1726 v_world y3).bind fun z10 =>
   (j_wr 3452 v_slots (((1726 : Int32) * y1) + y3) z10).bind fun g12 =>
   J_X8_save_b23 fu v_world n v_thrown g12 v_isKept y1 (y3 + 1)
  else
   J_X8_save_b61 fu v_world v_thrown v_slots v_isKept y1
def J_X8_save_b20 (fu : Nat) (v_world : Nat → Int32) (v_thrown : Int32) (v_slots : Nat → Int32) (v_isKept : Nat → Int32) (y1 : Int32) (k0 : Int32) : Option (Int32 × (Nat → Int32) × (Nat → Int32)) :=
 J_X8_save_b23 fu v_world fu v_thrown v_slots v_isKept y1 (0 : Int32)
def J_X8_save (fu : Nat) (v_thrown : Int32) (v_world : Nat → Int32) (v_slots : Nat → Int32) (v_isKept : Nat → Int32) (p0 : Int32) : Option (Int32 × (Nat → Int32) × (Nat → Int32)) :=
 (J_X8_isSlot p0).bind fun z1 =>
 if z1 = 0 then
  (J_X8_throwing v_thrown (1 : Int32)).bind fun z4 =>
  J_X8_save_b20 fu v_world z4.2 v_slots v_isKept p0 z4.1
 else
  (J_X8_told v_thrown (0 : Int32)).bind fun z6 =>
  J_X8_save_b20 fu v_world z6.2 v_slots v_isKept p0 z6.1
def J_X8_restore_b34 (fu : Nat) (v_slots : Nat → Int32) (v_isKept : Nat → Int32) : Nat → Int32 → (Nat → Int32) → (Nat → Int32) → (Nat → Int32) → Int32 → Int32 → Int32 → Option (Int32 × Int32 × (Nat → Int32) × (Nat → Int32) × (Nat → Int32) × Int32)
| 0, _, _, _, _, _, _, _ => none
| n + 1, v_thrown, v_world, v_aside, v_undone, v_undos, y1, y2 =>
 if (1726 : Int32) ≤ y2 then
  (j_rd 1726 v_world (6 : Int32)).bind fun z14 =>
  (J_X8_changed fu v_thrown v_aside v_undone v_undos z14).bind fun z16 =>
  some (z16.1, z16.2.1, v_world, v_aside, z16.2.2.1, z16.2.2.2)
 else
  (j_rd 3452 v_slots (((1726 : Int32) * y1) + y2)).bind fun z18 =>
  (j_wr 1726 v_world y2 z18).bind fun g20 =>
  J_X8_restore_b34 fu v_slots v_isKept n v_thrown g20 v_aside v_undone v_undos y1 (y2 + 1)
def J_X8_restore (fu : Nat) (v_thrown : Int32) (v_world : Nat → Int32) (v_aside : Nat → Int32) (v_undone : Nat → Int32) (v_slots : Nat → Int32) (v_isKept : Nat → Int32) (v_undos : Int32) (p0 : Int32) : Option (Int32 × Int32 × (Nat → Int32) × (Nat → Int32) × (Nat → Int32) × Int32) :=
 (J_X8_isSlot p0).bind fun z1 =>
 if z1 = 0 then
  (J_X8_throwing v_thrown (1 : Int32)).bind fun z11 =>
  some (z11.1, z11.2, v_world, v_aside, v_undone, v_undos)
 else
  (j_rd 2 v_isKept p0).bind fun z4 =>
  if z4 = 0 then
   (J_X8_throwing v_thrown (2 : Int32)).bind fun z9 =>
   some (z9.1, z9.2, v_world, v_aside, v_undone, v_undos)
  else
   (J_X8_keepsAside fu v_world v_aside).bind fun z7 =>
   J_X8_restore_b34 fu v_slots v_isKept fu v_thrown v_world z7 v_undone v_undos p0 (0 : Int32)
def J_X8_bitsFor_b2 (fu : Nat) : Nat → Int32 → Int32 → Option (Int32)
| 0, _, _ => none
| n + 1, y0, y1 =>
 if y0 ≤ ((1 : Int32) <<< (y1 &&& 31)) then
  some y1
 else
  J_X8_bitsFor_b2 fu n y0 (y1 + 1)
def J_X8_bitsFor (fu : Nat) (p0 : Int32) : Option (Int32) :=
 J_X8_bitsFor_b2 fu fu p0 (1 : Int32)
def J_X8_mostCodes (v_world : Nat → Int32) : Option (Int32) :=
 (j_rd 1726 v_world (1 : Int32)).bind fun z1 =>
 some ((1 : Int32) <<< (z1 &&& 31))
def J_X8_isAllFull (v_world : Nat → Int32) : Option (Int32) :=
 (j_rd 1726 v_world (4 : Int32)).bind fun z1 =>
 (J_X8_mostCodes v_world).bind fun z3 =>
 if z1 = z3 then
  some (1 : Int32)
 else
  some (0 : Int32)
def J_X8_isSymbol (v_world : Nat → Int32) (p0 : Int32) : Option (Int32) :=
 (j_rd 1726 v_world (0 : Int32)).bind fun z1 =>
 (J_X8_in p0 (0 : Int32) (z1 - (1 : Int32))).bind fun z3 =>
 if z3 &&& 1 = z3 then some z3 else none
def J_X8_isCode (v_world : Nat → Int32) (p0 : Int32) : Option (Int32) :=
 (j_rd 1726 v_world (4 : Int32)).bind fun z1 =>
 (J_X8_in p0 (0 : Int32) (z1 - (1 : Int32))).bind fun z3 =>
 if z3 &&& 1 = z3 then some z3 else none
def J_X8_clear (v_world : Nat → Int32) : Option (Int32) :=
 (j_rd 1726 v_world (0 : Int32)).bind fun z1 =>
 some z1
def J_X8_clearsAll (v_world : Nat → Int32) : Option ((Nat → Int32)) :=
 (j_rd 1726 v_world (0 : Int32)).bind fun z1 =>
 (j_wr 1726 v_world (4 : Int32) (z1 + (1 : Int32))).bind fun g3 =>
 (j_rd 1726 g3 (7 : Int32)).bind fun z5 =>
 (j_wr 1726 g3 (9 : Int32) z5).bind fun g7 =>
 some g7
def J_X8_isFirst (v_world : Nat → Int32) (p0 : Int32) : Option (Int32) :=
 (J_X8_clear v_world).bind fun z1 =>
 if z1 < p0 then
  some (0 : Int32)
 else
  some (1 : Int32)
def J_X8_lengthOf_b14 (fu : Nat) (v_world : Nat → Int32) : Nat → Int32 → Int32 → Option (Int32)
| 0, _, _ => none
| n + 1, y2, y3 =>
 (J_X8_isFirst v_world y3).bind fun z4 =>
 if z4 = 0 then
  (j_rd 1726 v_world ((14 : Int32) + y3)).bind fun z7 =>
  J_X8_lengthOf_b14 fu v_world n (y2 + 1) z7
 else
  some y2
def J_X8_lengthOf (fu : Nat) (v_world : Nat → Int32) (p0 : Int32) : Option (Int32) :=
 (J_X8_clear v_world).bind fun z1 =>
 if p0 = z1 then
  some (0 : Int32)
 else
  J_X8_lengthOf_b14 fu v_world fu (1 : Int32) p0
def J_X8_symbolOf_b13 (fu : Nat) (v_world : Nat → Int32) : Nat → Int32 → Int32 → Option (Int32)
| 0, _, _ => none
| n + 1, y3, y4 =>
 if y4 ≤ 0 then
  (J_X8_isFirst v_world y3).bind fun z4 =>
  if z4 = 0 then
   (j_rd 1726 v_world ((270 : Int32) + y3)).bind fun z7 =>
   some z7
  else
   some y3
 else
  (j_rd 1726 v_world ((14 : Int32) + y3)).bind fun z9 =>
  J_X8_symbolOf_b13 fu v_world n z9 (y4 + (-1))
def J_X8_symbolOf (fu : Nat) (v_world : Nat → Int32) (p0 : Int32) (p1 : Int32) : Option (Int32) :=
 (J_X8_lengthOf fu v_world p0).bind fun z1 =>
 J_X8_symbolOf_b13 fu v_world fu p0 ((z1 - (1 : Int32)) - p1)
def J_X8_longer_b7 (fu : Nat) (v_world : Nat → Int32) : Nat → Int32 → Int32 → Int32 → Option (Int32)
| 0, _, _, _ => none
| n + 1, y1, y2, y3 =>
 (j_rd 1726 v_world (4 : Int32)).bind fun z3 =>
 if z3 ≤ y3 then
  some (-1 : Int32)
 else
  (j_rd 1726 v_world ((14 : Int32) + y3)).bind fun z6 =>
  if z6 = y1 then
   (j_rd 1726 v_world ((270 : Int32) + y3)).bind fun z9 =>
   if z9 = y2 then
    some y3
   else
    J_X8_longer_b7 fu v_world n y1 y2 (y3 + 1)
  else
   J_X8_longer_b7 fu v_world n y1 y2 (y3 + 1)
def J_X8_longer (fu : Nat) (v_world : Nat → Int32) (p0 : Int32) (p1 : Int32) : Option (Int32) :=
 (J_X8_clear v_world).bind fun z1 =>
 J_X8_longer_b7 fu v_world fu p0 p1 (z1 + (1 : Int32))
def J_X8_learns (v_world : Nat → Int32) (p0 : Int32) (p1 : Int32) : Option ((Nat → Int32)) :=
 (j_rd 1726 v_world (4 : Int32)).bind fun z1 =>
 (j_wr 1726 v_world ((14 : Int32) + z1) p0).bind fun g3 =>
 (j_wr 1726 g3 ((270 : Int32) + z1) p1).bind fun g5 =>
 (j_rd 1726 g5 (4 : Int32)).bind fun z7 =>
 (j_wr 1726 g5 (4 : Int32) (z7 + (1 : Int32))).bind fun g9 =>
 some g9
def J_X8_writes (fu : Nat) (v_world : Nat → Int32) (p0 : Int32) : Option ((Nat → Int32)) :=
 (j_rd 1726 v_world (4 : Int32)).bind fun z1 =>
 (J_X8_bitsFor fu z1).bind fun z3 =>
 (j_rd 1726 v_world (7 : Int32)).bind fun z5 =>
 (j_wr 1726 v_world ((926 : Int32) + z5) (((16 : Int32) * p0) + z3)).bind fun g7 =>
 (j_rd 1726 g7 (7 : Int32)).bind fun z9 =>
 (j_wr 1726 g7 (7 : Int32) (z9 + (1 : Int32))).bind fun g11 =>
 (j_rd 1726 g11 (13 : Int32)).bind fun z13 =>
 (J_X8_lengthOf fu g11 p0).bind fun z15 =>
 (j_wr 1726 g11 (13 : Int32) (z13 + z15)).bind fun g17 =>
 some g17
def J_X8_writesClear (fu : Nat) (v_world : Nat → Int32) : Option ((Nat → Int32)) :=
 (J_X8_clear v_world).bind fun z1 =>
 (J_X8_writes fu v_world z1).bind fun z3 =>
 (j_rd 1726 z3 (8 : Int32)).bind fun z5 =>
 (j_wr 1726 z3 (8 : Int32) (z5 + (1 : Int32))).bind fun g7 =>
 (J_X8_clearsAll g7).bind fun z9 =>
 some z9
def J_X8_plain (fu : Nat) (v_world : Nat → Int32) : Option (Int32) :=
 (j_rd 1726 v_world (0 : Int32)).bind fun z1 =>
 (J_X8_bitsFor fu z1).bind fun z3 =>
 some z3
def J_X8_codeAt (v_world : Nat → Int32) (p0 : Int32) : Option (Int32) :=
 (j_rd 1726 v_world ((926 : Int32) + p0)).bind fun z1 =>
 some (z1 / (16 : Int32))
def J_X8_widthAt (v_world : Nat → Int32) (p0 : Int32) : Option (Int32) :=
 (j_rd 1726 v_world ((926 : Int32) + p0)).bind fun z1 =>
 some (z1 - z1 / (16 : Int32) * (16 : Int32))
def J_X8_symbolsSince_b10 (fu : Nat) (v_world : Nat → Int32) : Nat → Int32 → Int32 → Option (Int32)
| 0, _, _ => none
| n + 1, y1, y2 =>
 (j_rd 1726 v_world (7 : Int32)).bind fun z3 =>
 if z3 ≤ y2 then
  some y1
 else
  (J_X8_codeAt v_world y2).bind fun z6 =>
  (J_X8_lengthOf fu v_world z6).bind fun z8 =>
  J_X8_symbolsSince_b10 fu v_world n (y1 + z8) (y2 + 1)
def J_X8_symbolsSince (fu : Nat) (v_world : Nat → Int32) : Option (Int32) :=
 (j_rd 1726 v_world (9 : Int32)).bind fun z1 =>
 J_X8_symbolsSince_b10 fu v_world fu (0 : Int32) z1
def J_X8_bitsFrom_b4 (fu : Nat) (v_world : Nat → Int32) : Nat → Int32 → Int32 → Option (Int32)
| 0, _, _ => none
| n + 1, y2, y3 =>
 (j_rd 1726 v_world (7 : Int32)).bind fun z1 =>
 if z1 ≤ y3 then
  some y2
 else
  (J_X8_widthAt v_world y3).bind fun z4 =>
  J_X8_bitsFrom_b4 fu v_world n (y2 + z4) (y3 + 1)
def J_X8_bitsFrom (fu : Nat) (v_world : Nat → Int32) (p0 : Int32) : Option (Int32) :=
 J_X8_bitsFrom_b4 fu v_world fu (0 : Int32) p0
def J_X8_bitsSince (fu : Nat) (v_world : Nat → Int32) : Option (Int32) :=
 (j_rd 1726 v_world (9 : Int32)).bind fun z1 =>
 (J_X8_bitsFrom fu v_world z1).bind fun z3 =>
 some z3
def J_X8_allBits (fu : Nat) (v_world : Nat → Int32) : Option (Int32) :=
 (J_X8_bitsFrom fu v_world (0 : Int32)).bind fun z1 =>
 some z1
def J_X8_percentOf (fu : Nat) (v_world : Nat → Int32) (p0 : Int32) (p1 : Int32) : Option (Int32) :=
 if p1 = 0 then
  some (0 : Int32)
 else
  (J_X8_plain fu v_world).bind fun z2 =>
  if p1 * z2 = 0 then none else
   some (((100 : Int32) * p0) / (p1 * z2))
def J_X8_percent (fu : Nat) (v_world : Nat → Int32) : Option (Int32) :=
 (J_X8_bitsSince fu v_world).bind fun z1 =>
 (J_X8_symbolsSince fu v_world).bind fun z3 =>
 (J_X8_percentOf fu v_world z1 z3).bind fun z5 =>
 some z5
def J_X8_isAsked (fu : Nat) (v_world : Nat → Int32) : Option (Int32) :=
 (J_X8_isAllFull v_world).bind fun z1 =>
 if z1 = 0 then
  some (0 : Int32)
 else
  (j_rd 1726 v_world (2 : Int32)).bind fun z4 =>
  if z4 = (2 : Int32) then
   (J_X8_percent fu v_world).bind fun z10 =>
   (j_rd 1726 v_world (3 : Int32)).bind fun z12 =>
   if z10 ≤ z12 then
    some (0 : Int32)
   else
    some (1 : Int32)
  else
   (j_rd 1726 v_world (2 : Int32)).bind fun z7 =>
   if z7 = (1 : Int32) then
    some (1 : Int32)
   else
    some (0 : Int32)
def J_X8_endsPhrase_b32 (fu : Nat) (v_world : Nat → Int32) (y2 : Int32) : Option ((Nat → Int32)) :=
 (j_wr 1726 v_world (5 : Int32) (y2 + (1 : Int32))).bind fun g13 =>
 some g13
def J_X8_endsPhrase (fu : Nat) (v_world : Nat → Int32) (p0 : Int32) (p1 : Int32) : Option ((Nat → Int32)) :=
 (J_X8_writes fu v_world p0).bind fun z1 =>
 (J_X8_isAsked fu z1).bind fun z3 =>
 if z3 = 0 then
  (J_X8_isAllFull z1).bind fun z6 =>
  if z6 = 0 then
   (J_X8_learns z1 p0 p1).bind fun z9 =>
   J_X8_endsPhrase_b32 fu z9 p1
  else
   J_X8_endsPhrase_b32 fu z1 p1
 else
  (J_X8_writesClear fu z1).bind fun z11 =>
  J_X8_endsPhrase_b32 fu z11 p1
def J_X8_encodes (fu : Nat) (v_world : Nat → Int32) (p0 : Int32) : Option ((Nat → Int32)) :=
 (j_rd 1726 v_world (6 : Int32)).bind fun z1 =>
 (j_wr 1726 v_world ((526 : Int32) + z1) p0).bind fun g3 =>
 (j_rd 1726 g3 (6 : Int32)).bind fun z5 =>
 (j_wr 1726 g3 (6 : Int32) (z5 + (1 : Int32))).bind fun g7 =>
 (j_rd 1726 g7 (5 : Int32)).bind fun z9 =>
 if (0 : Int32) ≤ (z9 - (1 : Int32)) then
  (J_X8_longer fu g7 (z9 - (1 : Int32)) p0).bind fun z12 =>
  if z12 < 0 then
   (J_X8_endsPhrase fu g7 (z9 - (1 : Int32)) p0).bind fun z15 =>
   some z15
  else
   (j_wr 1726 g7 (5 : Int32) (z12 + (1 : Int32))).bind fun g17 =>
   some g17
 else
  (j_wr 1726 g7 (5 : Int32) (p0 + (1 : Int32))).bind fun g19 =>
  some g19
def J_X8_encode (fu : Nat) (v_thrown : Int32) (v_world : Nat → Int32) (v_aside : Nat → Int32) (v_undone : Nat → Int32) (v_undos : Int32) (p0 : Int32) : Option (Int32 × Int32 × (Nat → Int32) × (Nat → Int32) × (Nat → Int32) × Int32) :=
 (J_X8_isSymbol v_world p0).bind fun z1 =>
 if z1 = 0 then
  (J_X8_throwing v_thrown (1 : Int32)).bind fun z19 =>
  some (z19.1, z19.2, v_world, v_aside, v_undone, v_undos)
 else
  (j_rd 1726 v_world (6 : Int32)).bind fun z4 =>
  if z4 = (400 : Int32) then
   (J_X8_throwing v_thrown (2 : Int32)).bind fun z17 =>
   some (z17.1, z17.2, v_world, v_aside, v_undone, v_undos)
  else
   (J_X8_keepsAside fu v_world v_aside).bind fun z7 =>
   (j_rd 1726 v_world (7 : Int32)).bind fun z9 =>
   (J_X8_encodes fu v_world p0).bind fun z11 =>
   (j_rd 1726 z11 (7 : Int32)).bind fun z13 =>
   (J_X8_changed fu v_thrown z7 v_undone v_undos (z13 - z9)).bind fun z15 =>
   some (z15.1, z15.2.1, z11, z7, z15.2.2.1, z15.2.2.2)
def J_X8_isLetter (v_world : Nat → Int32) (p0 : Int32) : Option (Int32) :=
 (J_X8_isSymbol v_world (p0 - (97 : Int32))).bind fun z1 =>
 if z1 &&& 1 = z1 then some z1 else none
def J_X8_encodesTape_b2 (fu : Nat) (v_tape : Nat → Int32) : Nat → (Nat → Int32) → Int32 → Int32 → Int32 → Option ((Nat → Int32))
| 0, _, _, _, _ => none
| n + 1, v_world, y1, y2, y3 =>
 if y2 ≤ y3 then
  some v_world
 else
  (j_rd 800 v_tape (y1 + y3)).bind fun z2 =>
  (J_X8_encodes fu v_world (z2 - (97 : Int32))).bind fun z4 =>
  J_X8_encodesTape_b2 fu v_tape n z4 y1 y2 (y3 + 1)
def J_X8_encodesTape (fu : Nat) (v_tape : Nat → Int32) (v_world : Nat → Int32) (p0 : Int32) (p1 : Int32) : Option ((Nat → Int32)) :=
 J_X8_encodesTape_b2 fu v_tape fu v_world p0 p1 (0 : Int32)
def J_X8_areLetters_b5 (fu : Nat) (v_tape : Nat → Int32) (v_world : Nat → Int32) : Nat → Int32 → Int32 → Int32 → Int32 → Option (Int32)
| 0, _, _, _, _ => none
| n + 1, y1, y2, y3, y4 =>
 if y2 ≤ y4 then
  if y3 &&& 1 = y3 then some y3 else none
 else
  if y3 = 0 then
   if y3 &&& 1 = y3 then some y3 else none
  else
   (j_rd 800 v_tape (y1 + y4)).bind fun z5 =>
   (J_X8_isLetter v_world z5).bind fun z7 =>
   J_X8_areLetters_b5 fu v_tape v_world n y1 y2 z7 (y4 + 1)
def J_X8_areLetters (fu : Nat) (v_tape : Nat → Int32) (v_world : Nat → Int32) (p0 : Int32) (p1 : Int32) : Option (Int32) :=
 J_X8_areLetters_b5 fu v_tape v_world fu p0 p1 (1 : Int32) (0 : Int32)
def J_X8_encodeTape (fu : Nat) (v_tape : Nat → Int32) (v_taped : Int32) (v_thrown : Int32) (v_world : Nat → Int32) (v_aside : Nat → Int32) (v_undone : Nat → Int32) (v_undos : Int32) : Option (Int32 × Int32 × Int32 × (Nat → Int32) × (Nat → Int32) × (Nat → Int32) × Int32) :=
 (J_X8_areLetters fu v_tape v_world (0 : Int32) v_taped).bind fun z1 =>
 if z1 = 0 then
  (J_X8_throwing v_thrown (1 : Int32)).bind fun z19 =>
  some (z19.1, v_taped, z19.2, v_world, v_aside, v_undone, v_undos)
 else
  (j_rd 1726 v_world (6 : Int32)).bind fun z4 =>
  if (z4 + v_taped) ≤ (400 : Int32) then
   (J_X8_keepsAside fu v_world v_aside).bind fun z7 =>
   (j_rd 1726 v_world (7 : Int32)).bind fun z9 =>
   (J_X8_encodesTape fu v_tape v_world (0 : Int32) v_taped).bind fun z11 =>
   (j_rd 1726 z11 (7 : Int32)).bind fun z13 =>
   (J_X8_changed fu v_thrown z7 v_undone v_undos (z13 - z9)).bind fun z15 =>
   some (z15.1, (0 : Int32), z15.2.1, z11, z7, z15.2.2.1, z15.2.2.2)
  else
   (J_X8_throwing v_thrown (2 : Int32)).bind fun z17 =>
   some (z17.1, v_taped, z17.2, v_world, v_aside, v_undone, v_undos)
def J_X8_endsAll (fu : Nat) (v_world : Nat → Int32) : Option ((Nat → Int32)) :=
 (j_rd 1726 v_world (5 : Int32)).bind fun z1 =>
 (J_X8_writes fu v_world (z1 - (1 : Int32))).bind fun z3 =>
 (J_X8_writesClear fu z3).bind fun z5 =>
 (j_wr 1726 z5 (5 : Int32) (0 : Int32)).bind fun g7 =>
 some g7
def J_X8_flush_b25 (fu : Nat) (v_thrown : Int32) (v_world : Nat → Int32) (v_aside : Nat → Int32) (v_undone : Nat → Int32) (v_undos : Int32) (y1 : Int32) : Option (Int32 × Int32 × (Nat → Int32) × (Nat → Int32) × (Nat → Int32) × Int32) :=
 (j_rd 1726 v_world (7 : Int32)).bind fun z10 =>
 (J_X8_changed fu v_thrown v_aside v_undone v_undos (z10 - y1)).bind fun z12 =>
 some (z12.1, z12.2.1, v_world, v_aside, z12.2.2.1, z12.2.2.2)
def J_X8_flush (fu : Nat) (v_thrown : Int32) (v_world : Nat → Int32) (v_aside : Nat → Int32) (v_undone : Nat → Int32) (v_undos : Int32) : Option (Int32 × Int32 × (Nat → Int32) × (Nat → Int32) × (Nat → Int32) × Int32) :=
 (J_X8_keepsAside fu v_world v_aside).bind fun z1 =>
 (j_rd 1726 v_world (7 : Int32)).bind fun z3 =>
 (j_rd 1726 v_world (5 : Int32)).bind fun z5 =>
 if z5 ≤ 0 then
  J_X8_flush_b25 fu v_thrown v_world z1 v_undone v_undos z3
 else
  (J_X8_endsAll fu v_world).bind fun z8 =>
  J_X8_flush_b25 fu v_thrown z8 z1 v_undone v_undos z3
def J_X8_starts (v_world : Nat → Int32) : Option ((Nat → Int32)) :=
 (J_X8_clearsAll v_world).bind fun z1 =>
 (j_wr 1726 z1 (5 : Int32) (0 : Int32)).bind fun g3 =>
 (j_wr 1726 g3 (6 : Int32) (0 : Int32)).bind fun g5 =>
 (j_wr 1726 g5 (7 : Int32) (0 : Int32)).bind fun g7 =>
 (j_wr 1726 g7 (8 : Int32) (0 : Int32)).bind fun g9 =>
 (j_wr 1726 g9 (9 : Int32) (0 : Int32)).bind fun g11 =>
 (j_wr 1726 g11 (13 : Int32) (0 : Int32)).bind fun g13 =>
 some g13
def J_X8_restart (fu : Nat) (v_thrown : Int32) (v_world : Nat → Int32) (v_aside : Nat → Int32) (v_undone : Nat → Int32) (v_undos : Int32) : Option (Int32 × Int32 × (Nat → Int32) × (Nat → Int32) × (Nat → Int32) × Int32) :=
 (J_X8_keepsAside fu v_world v_aside).bind fun z1 =>
 (j_rd 1726 v_world (7 : Int32)).bind fun z3 =>
 (J_X8_starts v_world).bind fun z5 =>
 (J_X8_changed fu v_thrown z1 v_undone v_undos z3).bind fun z7 =>
 some (z7.1, z7.2.1, z5, z1, z7.2.2.1, z7.2.2.2)
def J_X8_setPolicy (fu : Nat) (v_thrown : Int32) (v_world : Nat → Int32) (v_aside : Nat → Int32) (v_undone : Nat → Int32) (v_undos : Int32) (p0 : Int32) : Option (Int32 × Int32 × (Nat → Int32) × (Nat → Int32) × (Nat → Int32) × Int32) :=
 (J_X8_in p0 (0 : Int32) (2 : Int32)).bind fun z1 =>
 if z1 = 0 then
  (J_X8_throwing v_thrown (1 : Int32)).bind fun z12 =>
  some (z12.1, z12.2, v_world, v_aside, v_undone, v_undos)
 else
  (J_X8_keepsAside fu v_world v_aside).bind fun z4 =>
  (j_rd 1726 v_world (2 : Int32)).bind fun z6 =>
  (j_wr 1726 v_world (2 : Int32) p0).bind fun g8 =>
  (J_X8_changed fu v_thrown z4 v_undone v_undos z6).bind fun z10 =>
  some (z10.1, z10.2.1, g8, z4, z10.2.2.1, z10.2.2.2)
def J_X8_isPercent (p0 : Int32) : Option (Int32) :=
 (J_X8_in p0 (1 : Int32) (200 : Int32)).bind fun z1 =>
 if z1 &&& 1 = z1 then some z1 else none
def J_X8_setLimit (fu : Nat) (v_thrown : Int32) (v_world : Nat → Int32) (v_aside : Nat → Int32) (v_undone : Nat → Int32) (v_undos : Int32) (p0 : Int32) : Option (Int32 × Int32 × (Nat → Int32) × (Nat → Int32) × (Nat → Int32) × Int32) :=
 (J_X8_isPercent p0).bind fun z1 =>
 if z1 = 0 then
  (J_X8_throwing v_thrown (1 : Int32)).bind fun z12 =>
  some (z12.1, z12.2, v_world, v_aside, v_undone, v_undos)
 else
  (J_X8_keepsAside fu v_world v_aside).bind fun z4 =>
  (j_rd 1726 v_world (3 : Int32)).bind fun z6 =>
  (j_wr 1726 v_world (3 : Int32) p0).bind fun g8 =>
  (J_X8_changed fu v_thrown z4 v_undone v_undos z6).bind fun z10 =>
  some (z10.1, z10.2.1, g8, z4, z10.2.2.1, z10.2.2.2)
def J_X8_startsDecoder (v_world : Nat → Int32) (v_seen : Int32) (v_previous : Int32) (v_gains : Int32) : Option (Int32 × Int32 × Int32) :=
 (j_rd 1726 v_world (0 : Int32)).bind fun z1 =>
 some (z1 + (1 : Int32), (-1 : Int32), (0 : Int32))
def J_X8_seenLength_b4 (fu : Nat) (v_world : Nat → Int32) (v_seenPrefix : Nat → Int32) : Nat → Int32 → Int32 → Option (Int32)
| 0, _, _ => none
| n + 1, y2, y3 =>
 (J_X8_isFirst v_world y3).bind fun z1 =>
 if z1 = 0 then
  (j_rd 256 v_seenPrefix y3).bind fun z4 =>
  J_X8_seenLength_b4 fu v_world v_seenPrefix n (y2 + 1) z4
 else
  some y2
def J_X8_seenLength (fu : Nat) (v_world : Nat → Int32) (v_seenPrefix : Nat → Int32) (p0 : Int32) : Option (Int32) :=
 J_X8_seenLength_b4 fu v_world v_seenPrefix fu (1 : Int32) p0
def J_X8_seenFirst_b2 (fu : Nat) (v_world : Nat → Int32) (v_seenPrefix : Nat → Int32) : Nat → Int32 → Option (Int32)
| 0, _ => none
| n + 1, y2 =>
 (J_X8_isFirst v_world y2).bind fun z1 =>
 if z1 = 0 then
  (j_rd 256 v_seenPrefix y2).bind fun z4 =>
  J_X8_seenFirst_b2 fu v_world v_seenPrefix n z4
 else
  some y2
def J_X8_seenFirst (fu : Nat) (v_world : Nat → Int32) (v_seenPrefix : Nat → Int32) (p0 : Int32) : Option (Int32) :=
 J_X8_seenFirst_b2 fu v_world v_seenPrefix fu p0
def J_X8_seenLonger_b7 (fu : Nat) (v_world : Nat → Int32) (v_seenPrefix : Nat → Int32) (v_seenLast : Nat → Int32) (v_seen : Int32) : Nat → Int32 → Int32 → Int32 → Option (Int32)
| 0, _, _, _ => none
| n + 1, y1, y2, y3 =>
 if v_seen ≤ y3 then
  some (-1 : Int32)
 else
  (j_rd 256 v_seenPrefix y3).bind fun z4 =>
  if z4 = y1 then
   (j_rd 256 v_seenLast y3).bind fun z7 =>
   if z7 = y2 then
    some y3
   else
    J_X8_seenLonger_b7 fu v_world v_seenPrefix v_seenLast v_seen n y1 y2 (y3 + 1)
  else
   J_X8_seenLonger_b7 fu v_world v_seenPrefix v_seenLast v_seen n y1 y2 (y3 + 1)
def J_X8_seenLonger (fu : Nat) (v_world : Nat → Int32) (v_seenPrefix : Nat → Int32) (v_seenLast : Nat → Int32) (v_seen : Int32) (p0 : Int32) (p1 : Int32) : Option (Int32) :=
 (J_X8_clear v_world).bind fun z1 =>
 J_X8_seenLonger_b7 fu v_world v_seenPrefix v_seenLast v_seen fu p0 p1 (z1 + (1 : Int32))
def J_X8_seesLonger (fu : Nat) (v_world : Nat → Int32) (v_seenPrefix : Nat → Int32) (v_seenLast : Nat → Int32) (v_seen : Int32) (v_previous : Int32) (p0 : Int32) : Option (Int32 × (Nat → Int32) × (Nat → Int32) × Int32) :=
 (J_X8_seenLonger fu v_world v_seenPrefix v_seenLast v_seen v_previous p0).bind fun z1 =>
 if z1 < 0 then
  (j_wr 256 v_seenPrefix v_seen v_previous).bind fun g4 =>
  (j_wr 256 v_seenLast v_seen p0).bind fun g6 =>
  some ((v_seen + (1 : Int32)) - (1 : Int32), g4, g6, v_seen + (1 : Int32))
 else
  some (z1, v_seenPrefix, v_seenLast, v_seen)
def J_X8_gains_b13 (fu : Nat) (v_world : Nat → Int32) (v_seenPrefix : Nat → Int32) (v_seenLast : Nat → Int32) : Nat → (Nat → Int32) → Int32 → Int32 → Int32 → Int32 → Option ((Nat → Int32) × Int32)
| 0, _, _, _, _, _ => none
| n + 1, v_gained, v_gains, y2, y3, y4 =>
 if y4 ≤ 0 then
  (j_wr 400 v_gained v_gains y3).bind fun g4 =>
  some (g4, v_gains + y2)
 else
  (j_rd 256 v_seenLast y3).bind fun z6 =>
  (j_wr 400 v_gained (v_gains + y4) z6).bind fun g8 =>
  (j_rd 256 v_seenPrefix y3).bind fun z10 =>
  J_X8_gains_b13 fu v_world v_seenPrefix v_seenLast n g8 v_gains y2 z10 (y4 + (-1))
def J_X8_gains (fu : Nat) (v_world : Nat → Int32) (v_seenPrefix : Nat → Int32) (v_seenLast : Nat → Int32) (v_gained : Nat → Int32) (v_gains : Int32) (p0 : Int32) : Option ((Nat → Int32) × Int32) :=
 (J_X8_seenLength fu v_world v_seenPrefix p0).bind fun z1 =>
 J_X8_gains_b13 fu v_world v_seenPrefix v_seenLast fu v_gained v_gains z1 p0 (z1 - (1 : Int32))
def J_X8_hasPlace (v_world : Nat → Int32) (v_seen : Int32) (v_previous : Int32) : Option (Int32) :=
 if v_previous < 0 then
  some (0 : Int32)
 else
  (J_X8_mostCodes v_world).bind fun z2 =>
  if z2 ≤ v_seen then
   some (0 : Int32)
  else
   some (1 : Int32)
def J_X8_isNext (v_world : Nat → Int32) (v_seen : Int32) (v_previous : Int32) (p0 : Int32) : Option (Int32) :=
 if p0 = v_seen then
  (J_X8_hasPlace v_world v_seen v_previous).bind fun z2 =>
  if z2 = 0 then
   some (0 : Int32)
  else
   some (1 : Int32)
 else
  some (0 : Int32)
def J_X8_isValid (v_world : Nat → Int32) (v_seen : Int32) (v_previous : Int32) (p0 : Int32) : Option (Int32) :=
 (J_X8_in p0 (0 : Int32) (v_seen - (1 : Int32))).bind fun z1 =>
 if z1 = 0 then
  (J_X8_isNext v_world v_seen v_previous p0).bind fun z4 =>
  if z4 &&& 1 = z4 then some z4 else none
 else
  some (1 : Int32)
def J_X8_lengthTaken (fu : Nat) (v_world : Nat → Int32) (v_seenPrefix : Nat → Int32) (v_seen : Int32) (v_previous : Int32) (p0 : Int32) : Option (Int32) :=
 (J_X8_isNext v_world v_seen v_previous p0).bind fun z1 =>
 if z1 = 0 then
  (J_X8_seenLength fu v_world v_seenPrefix p0).bind fun z4 =>
  some z4
 else
  (J_X8_seenLength fu v_world v_seenPrefix v_previous).bind fun z6 =>
  some (z6 + (1 : Int32))
def J_X8_sees (fu : Nat) (v_world : Nat → Int32) (v_seenPrefix : Nat → Int32) (v_seenLast : Nat → Int32) (v_seen : Int32) (v_previous : Int32) (p0 : Int32) : Option (Int32 × (Nat → Int32) × (Nat → Int32) × Int32) :=
 (J_X8_hasPlace v_world v_seen v_previous).bind fun z1 =>
 if z1 = 0 then
  some (p0, v_seenPrefix, v_seenLast, v_seen)
 else
  (J_X8_isNext v_world v_seen v_previous p0).bind fun z4 =>
  if z4 = 0 then
   (J_X8_seenFirst fu v_world v_seenPrefix p0).bind fun z7 =>
   (J_X8_seesLonger fu v_world v_seenPrefix v_seenLast v_seen v_previous z7).bind fun z9 =>
   some (p0, z9.2.1, z9.2.2.1, z9.2.2.2)
  else
   (J_X8_seenFirst fu v_world v_seenPrefix v_previous).bind fun z11 =>
   (J_X8_seesLonger fu v_world v_seenPrefix v_seenLast v_seen v_previous z11).bind fun z13 =>
   some (z13.1, z13.2.1, z13.2.2.1, z13.2.2.2)
def J_X8_takes (fu : Nat) (v_world : Nat → Int32) (v_seenPrefix : Nat → Int32) (v_seenLast : Nat → Int32) (v_seen : Int32) (v_previous : Int32) (v_gained : Nat → Int32) (v_gains : Int32) (p0 : Int32) : Option (Int32 × (Nat → Int32) × (Nat → Int32) × Int32 × Int32 × (Nat → Int32) × Int32) :=
 (J_X8_clear v_world).bind fun z1 =>
 if p0 = z1 then
  (j_rd 1726 v_world (0 : Int32)).bind fun z14 =>
  some ((1 : Int32), v_seenPrefix, v_seenLast, z14 + (1 : Int32), (-1 : Int32), v_gained, v_gains)
 else
  (J_X8_isValid v_world v_seen v_previous p0).bind fun z4 =>
  if z4 = 0 then
   some ((0 : Int32), v_seenPrefix, v_seenLast, v_seen, v_previous, v_gained, v_gains)
  else
   (J_X8_lengthTaken fu v_world v_seenPrefix v_seen v_previous p0).bind fun z7 =>
   if (v_gains + z7) ≤ (400 : Int32) then
    (J_X8_sees fu v_world v_seenPrefix v_seenLast v_seen v_previous p0).bind fun z10 =>
    (J_X8_gains fu v_world z10.2.1 z10.2.2.1 v_gained v_gains z10.1).bind fun z12 =>
    some ((1 : Int32), z10.2.1, z10.2.2.1, z10.2.2.2, z10.1, z12.1, z12.2)
   else
    some ((0 : Int32), v_seenPrefix, v_seenLast, v_seen, v_previous, v_gained, v_gains)
def J_X8_decodesWritten_b8 (fu : Nat) (v_world : Nat → Int32) : Nat → (Nat → Int32) → (Nat → Int32) → Int32 → Int32 → (Nat → Int32) → Int32 → Int32 → Int32 → Option ((Nat → Int32) × (Nat → Int32) × Int32 × Int32 × (Nat → Int32) × Int32)
| 0, _, _, _, _, _, _, _, _ => none
| n + 1, v_seenPrefix, v_seenLast, v_seen, v_previous, v_gained, v_gains, y1, y2 =>
 (j_rd 1726 v_world (7 : Int32)).bind fun z3 =>
 if z3 ≤ y2 then
  some (v_seenPrefix, v_seenLast, v_seen, v_previous, v_gained, v_gains)
 else
  if y1 = 0 then
   some (v_seenPrefix, v_seenLast, v_seen, v_previous, v_gained, v_gains)
  else
   (j_rd 1726 v_world ((926 : Int32) + y2)).bind fun z7 =>
   (J_X8_takes fu v_world v_seenPrefix v_seenLast v_seen v_previous v_gained v_gains (z7 / (16 : Int32))).bind fun z9 =>
   J_X8_decodesWritten_b8 fu v_world n z9.2.1 z9.2.2.1 z9.2.2.2.1 z9.2.2.2.2.1 z9.2.2.2.2.2.1 z9.2.2.2.2.2.2 z9.1 (y2 + 1)
def J_X8_decodesWritten (fu : Nat) (v_world : Nat → Int32) (v_seenPrefix : Nat → Int32) (v_seenLast : Nat → Int32) (v_seen : Int32) (v_previous : Int32) (v_gained : Nat → Int32) (v_gains : Int32) : Option ((Nat → Int32) × (Nat → Int32) × Int32 × Int32 × (Nat → Int32) × Int32) :=
 (J_X8_startsDecoder v_world v_seen v_previous v_gains).bind fun z1 =>
 J_X8_decodesWritten_b8 fu v_world fu v_seenPrefix v_seenLast z1.1 z1.2.1 v_gained z1.2.2 (1 : Int32) (0 : Int32)
def J_X8_isByte (v_tape : Nat → Int32) (v_taped : Int32) (v_readAt : Int32) (p0 : Int32) (p1 : Int32) : Option (Int32) :=
 if v_taped ≤ v_readAt then
  some (0 : Int32)
 else
  (j_rd 800 v_tape v_readAt).bind fun z2 =>
  if z2 < p0 then
   some (0 : Int32)
  else
   (j_rd 800 v_tape v_readAt).bind fun z5 =>
   if p1 < z5 then
    some (0 : Int32)
   else
    some (1 : Int32)
def J_X8_takesLetters_b105 (fu : Nat) (v_tape : Nat → Int32) (v_taped : Int32) (v_start : Int32) (v_readAt : Int32) (v_kind : Int32) (v_word : Int64) (v_letters : Int32) (k1 : Int64) : Option (Int32 × Int32 × Int64 × Int32) :=
 some (v_readAt, (1 : Int32), k1, v_letters)
def J_X8_takesLetters_b5 (fu : Nat) (v_tape : Nat → Int32) (v_taped : Int32) (v_start : Int32) : Nat → Int32 → Int32 → Int64 → Int32 → Option (Int32 × Int32 × Int64 × Int32)
| 0, _, _, _, _ => none
| n + 1, v_readAt, v_kind, v_word, v_letters =>
 (J_X8_isByte v_tape v_taped v_readAt (97 : Int32) (122 : Int32)).bind fun z1 =>
 if z1 = 0 then
  if (v_readAt - v_start) ≤ (7 : Int32) then
   J_X8_takesLetters_b105 fu v_tape v_taped v_start v_readAt v_kind v_word (v_readAt - v_start) v_word
  else
   J_X8_takesLetters_b105 fu v_tape v_taped v_start v_readAt v_kind v_word (v_readAt - v_start) (0 : Int64)
 else
  if (7 : Int32) ≤ (v_readAt - v_start) then
   J_X8_takesLetters_b5 fu v_tape v_taped v_start n (v_readAt + (1 : Int32)) v_kind (0 : Int64) v_letters
  else
   (j_rd 800 v_tape v_readAt).bind fun z6 =>
   J_X8_takesLetters_b5 fu v_tape v_taped v_start n (v_readAt + (1 : Int32)) v_kind ((((32 : Int64) * v_word) + z6.toInt64) - (96 : Int64)) v_letters
def J_X8_takesLetters (fu : Nat) (v_tape : Nat → Int32) (v_taped : Int32) (v_readAt : Int32) (v_start : Int32) (v_kind : Int32) (v_word : Int64) (v_letters : Int32) : Option (Int32 × Int32 × Int64 × Int32) :=
 J_X8_takesLetters_b5 fu v_tape v_taped v_start fu v_readAt v_kind (0 : Int64) v_letters
def J_X8_takesDigits_b92 (fu : Nat) (v_tape : Nat → Int32) (v_taped : Int32) (v_start : Int32) (v_readAt : Int32) (v_kind : Int32) (v_number : Int32) (k1 : Int32) : Option (Int32 × Int32 × Int32) :=
 some (v_readAt, k1, v_number)
def J_X8_takesDigits_b5 (fu : Nat) (v_tape : Nat → Int32) (v_taped : Int32) (v_start : Int32) : Nat → Int32 → Int32 → Int32 → Option (Int32 × Int32 × Int32)
| 0, _, _, _ => none
| n + 1, v_readAt, v_kind, v_number =>
 (J_X8_isByte v_tape v_taped v_readAt (48 : Int32) (57 : Int32)).bind fun z1 =>
 if z1 = 0 then
  if (v_readAt - v_start) ≤ (3 : Int32) then
   J_X8_takesDigits_b92 fu v_tape v_taped v_start v_readAt v_kind v_number (2 : Int32)
  else
   J_X8_takesDigits_b92 fu v_tape v_taped v_start v_readAt v_kind v_number (4 : Int32)
 else
  if (3 : Int32) ≤ (v_readAt - v_start) then
   J_X8_takesDigits_b5 fu v_tape v_taped v_start n (v_readAt + (1 : Int32)) v_kind v_number
  else
   (j_rd 800 v_tape v_readAt).bind fun z6 =>
   J_X8_takesDigits_b5 fu v_tape v_taped v_start n (v_readAt + (1 : Int32)) v_kind ((((10 : Int32) * v_number) + z6) - (48 : Int32))
def J_X8_takesDigits (fu : Nat) (v_tape : Nat → Int32) (v_taped : Int32) (v_readAt : Int32) (v_start : Int32) (v_kind : Int32) (v_number : Int32) : Option (Int32 × Int32 × Int32) :=
 J_X8_takesDigits_b5 fu v_tape v_taped v_start fu v_readAt v_kind (0 : Int32)
def J_X8_nextToken_b135 (fu : Nat) (v_tape : Nat → Int32) (v_taped : Int32) (v_readAt : Int32) (v_start : Int32) (v_kind : Int32) (v_word : Int64) (v_letters : Int32) (v_number : Int32) (k1 : Int32) : Option (Int32 × Int32 × Int32 × Int64 × Int32 × Int32) :=
 some (v_readAt + (1 : Int32), v_start, k1, v_word, v_letters, v_number)
def J_X8_nextToken_b52 (fu : Nat) (v_tape : Nat → Int32) (v_taped : Int32) (v_readAt : Int32) (v_start : Int32) (v_kind : Int32) (v_word : Int64) (v_letters : Int32) (v_number : Int32) : Option (Int32 × Int32 × Int32 × Int64 × Int32 × Int32) :=
 if v_readAt = v_taped then
  some (v_readAt, v_readAt, (0 : Int32), v_word, v_letters, v_number)
 else
  (J_X8_isByte v_tape v_taped v_readAt (97 : Int32) (122 : Int32)).bind fun z9 =>
  if z9 = 0 then
   (J_X8_isByte v_tape v_taped v_readAt (48 : Int32) (57 : Int32)).bind fun z12 =>
   if z12 = 0 then
    (j_rd 800 v_tape v_readAt).bind fun z15 =>
    if z15 = (59 : Int32) then
     J_X8_nextToken_b135 fu v_tape v_taped v_readAt v_readAt v_kind v_word v_letters v_number (3 : Int32)
    else
     J_X8_nextToken_b135 fu v_tape v_taped v_readAt v_readAt v_kind v_word v_letters v_number (4 : Int32)
   else
    (J_X8_takesDigits fu v_tape v_taped v_readAt v_readAt v_kind v_number).bind fun z18 =>
    some (z18.1, v_readAt, z18.2.1, v_word, v_letters, z18.2.2)
  else
   (J_X8_takesLetters fu v_tape v_taped v_readAt v_readAt v_kind v_word v_letters).bind fun z20 =>
   some (z20.1, v_readAt, z20.2.1, z20.2.2.1, z20.2.2.2, v_number)
def J_X8_nextToken_b0 (fu : Nat) (v_tape : Nat → Int32) (v_taped : Int32) : Nat → Int32 → Int32 → Int32 → Int64 → Int32 → Int32 → Option (Int32 × Int32 × Int32 × Int64 × Int32 × Int32)
| 0, _, _, _, _, _, _ => none
| n + 1, v_readAt, v_start, v_kind, v_word, v_letters, v_number =>
 if v_taped ≤ v_readAt then
  J_X8_nextToken_b52 fu v_tape v_taped v_readAt v_start v_kind v_word v_letters v_number
 else
  (j_rd 800 v_tape v_readAt).bind fun z23 =>
  if z23 = (32 : Int32) then
   J_X8_nextToken_b0 fu v_tape v_taped n (v_readAt + (1 : Int32)) v_start v_kind v_word v_letters v_number
  else
   (j_rd 800 v_tape v_readAt).bind fun z26 =>
   if z26 = (10 : Int32) then
    J_X8_nextToken_b0 fu v_tape v_taped n (v_readAt + (1 : Int32)) v_start v_kind v_word v_letters v_number
   else
    J_X8_nextToken_b52 fu v_tape v_taped v_readAt v_start v_kind v_word v_letters v_number
def J_X8_nextToken (fu : Nat) (v_tape : Nat → Int32) (v_taped : Int32) (v_readAt : Int32) (v_start : Int32) (v_kind : Int32) (v_word : Int64) (v_letters : Int32) (v_number : Int32) : Option (Int32 × Int32 × Int32 × Int64 × Int32 × Int32) :=
 if v_taped ≤ v_readAt then
  J_X8_nextToken_b52 fu v_tape v_taped v_readAt v_start v_kind v_word v_letters v_number
 else
  (j_rd 800 v_tape v_readAt).bind fun z2 =>
  if z2 = (32 : Int32) then
   J_X8_nextToken_b0 fu v_tape v_taped fu (v_readAt + (1 : Int32)) v_start v_kind v_word v_letters v_number
  else
   (j_rd 800 v_tape v_readAt).bind fun z5 =>
   if z5 = (10 : Int32) then
    J_X8_nextToken_b0 fu v_tape v_taped fu (v_readAt + (1 : Int32)) v_start v_kind v_word v_letters v_number
   else
    J_X8_nextToken_b52 fu v_tape v_taped v_readAt v_start v_kind v_word v_letters v_number
def J_X8_accepts_b24 (fu : Nat) (v_tape : Nat → Int32) (v_taped : Int32) (v_errorAt : Int32) (v_readAt : Int32) (v_start : Int32) (v_kind : Int32) (v_word : Int64) (v_letters : Int32) (v_number : Int32) (v_fine : Int32) : Option (Int32 × Int32 × Int32 × Int32 × Int64 × Int32 × Int32 × Int32) :=
 if v_fine = 0 then
  some (v_errorAt, v_readAt, v_start, v_kind, v_word, v_letters, v_number, v_fine)
 else
  (J_X8_nextToken fu v_tape v_taped v_readAt v_start v_kind v_word v_letters v_number).bind fun z4 =>
  some (v_errorAt, z4.1, z4.2.1, z4.2.2.1, z4.2.2.2.1, z4.2.2.2.2.1, z4.2.2.2.2.2, v_fine)
def J_X8_accepts (fu : Nat) (v_tape : Nat → Int32) (v_taped : Int32) (v_errorAt : Int32) (v_readAt : Int32) (v_start : Int32) (v_kind : Int32) (v_word : Int64) (v_letters : Int32) (v_number : Int32) (v_fine : Int32) (p0 : Int32) : Option (Int32 × Int32 × Int32 × Int32 × Int64 × Int32 × Int32 × Int32) :=
 if v_fine = 0 then
  J_X8_accepts_b24 fu v_tape v_taped v_errorAt v_readAt v_start v_kind v_word v_letters v_number v_fine
 else
  if p0 = 0 then
   J_X8_accepts_b24 fu v_tape v_taped v_start v_readAt v_start v_kind v_word v_letters v_number (0 : Int32)
  else
   J_X8_accepts_b24 fu v_tape v_taped v_errorAt v_readAt v_start v_kind v_word v_letters v_number v_fine
def J_X8_isKey (v_kind : Int32) (v_word : Int64) (v_fine : Int32) (p0 : Int64) : Option (Int32) :=
 if v_fine = 0 then
  some (0 : Int32)
 else
  if v_kind = (1 : Int32) then
   if (lg_cmp v_word p0) = 0 then
    some (1 : Int32)
   else
    some (0 : Int32)
  else
   some (0 : Int32)
def J_X8_numberIf_b30 (fu : Nat) (v_tape : Nat → Int32) (v_taped : Int32) (v_errorAt : Int32) (v_readAt : Int32) (v_start : Int32) (v_kind : Int32) (v_word : Int64) (v_letters : Int32) (v_number : Int32) (v_fine : Int32) (y2 : Int32) (k1 : Int32) : Option (Int32 × Int32 × Int32 × Int32 × Int32 × Int64 × Int32 × Int32 × Int32) :=
 (J_X8_accepts fu v_tape v_taped v_errorAt v_readAt v_start v_kind v_word v_letters v_number v_fine k1).bind fun z4 =>
 if z4.2.2.2.2.2.2.2 = 0 then
  some ((0 : Int32), z4.1, z4.2.1, z4.2.2.1, z4.2.2.2.1, z4.2.2.2.2.1, z4.2.2.2.2.2.1, z4.2.2.2.2.2.2.1, z4.2.2.2.2.2.2.2)
 else
  some (y2, z4.1, z4.2.1, z4.2.2.1, z4.2.2.2.1, z4.2.2.2.2.1, z4.2.2.2.2.2.1, z4.2.2.2.2.2.2.1, z4.2.2.2.2.2.2.2)
def J_X8_numberIf_b29 (fu : Nat) (v_tape : Nat → Int32) (v_taped : Int32) (v_errorAt : Int32) (v_readAt : Int32) (v_start : Int32) (v_kind : Int32) (v_word : Int64) (v_letters : Int32) (v_number : Int32) (v_fine : Int32) (y2 : Int32) : Option (Int32 × Int32 × Int32 × Int32 × Int32 × Int64 × Int32 × Int32 × Int32) :=
 J_X8_numberIf_b30 fu v_tape v_taped v_errorAt v_readAt v_start v_kind v_word v_letters v_number v_fine y2 (0 : Int32)
def J_X8_numberIf (fu : Nat) (v_tape : Nat → Int32) (v_taped : Int32) (v_errorAt : Int32) (v_readAt : Int32) (v_start : Int32) (v_kind : Int32) (v_word : Int64) (v_letters : Int32) (v_number : Int32) (v_fine : Int32) (p0 : Int32) : Option (Int32 × Int32 × Int32 × Int32 × Int32 × Int64 × Int32 × Int32 × Int32) :=
 if v_fine = 0 then
  J_X8_numberIf_b29 fu v_tape v_taped v_errorAt v_readAt v_start v_kind v_word v_letters v_number v_fine v_number
 else
  if v_kind = (2 : Int32) then
   if p0 = 0 then
    J_X8_numberIf_b29 fu v_tape v_taped v_errorAt v_readAt v_start v_kind v_word v_letters v_number v_fine v_number
   else
    J_X8_numberIf_b30 fu v_tape v_taped v_errorAt v_readAt v_start v_kind v_word v_letters v_number v_fine v_number (1 : Int32)
  else
   J_X8_numberIf_b29 fu v_tape v_taped v_errorAt v_readAt v_start v_kind v_word v_letters v_number v_fine v_number
def J_X8_numberIn (fu : Nat) (v_tape : Nat → Int32) (v_taped : Int32) (v_errorAt : Int32) (v_readAt : Int32) (v_start : Int32) (v_kind : Int32) (v_word : Int64) (v_letters : Int32) (v_number : Int32) (v_fine : Int32) (p0 : Int32) (p1 : Int32) : Option (Int32 × Int32 × Int32 × Int32 × Int32 × Int64 × Int32 × Int32 × Int32) :=
 (J_X8_in v_number p0 p1).bind fun z1 =>
 (J_X8_numberIf fu v_tape v_taped v_errorAt v_readAt v_start v_kind v_word v_letters v_number v_fine z1).bind fun z3 =>
 some (z3.1, z3.2.1, z3.2.2.1, z3.2.2.2.1, z3.2.2.2.2.1, z3.2.2.2.2.2.1, z3.2.2.2.2.2.2.1, z3.2.2.2.2.2.2.2.1, z3.2.2.2.2.2.2.2.2)
def J_X8_mark_b21 (fu : Nat) (v_tape : Nat → Int32) (v_taped : Int32) (v_errorAt : Int32) (v_readAt : Int32) (v_start : Int32) (v_kind : Int32) (v_word : Int64) (v_letters : Int32) (v_number : Int32) (v_fine : Int32) (k1 : Int32) : Option (Int32 × Int32 × Int32 × Int32 × Int64 × Int32 × Int32 × Int32) :=
 (J_X8_accepts fu v_tape v_taped v_errorAt v_readAt v_start v_kind v_word v_letters v_number v_fine k1).bind fun z3 =>
 some (z3.1, z3.2.1, z3.2.2.1, z3.2.2.2.1, z3.2.2.2.2.1, z3.2.2.2.2.2.1, z3.2.2.2.2.2.2.1, z3.2.2.2.2.2.2.2)
def J_X8_mark_b20 (fu : Nat) (v_tape : Nat → Int32) (v_taped : Int32) (v_errorAt : Int32) (v_readAt : Int32) (v_start : Int32) (v_kind : Int32) (v_word : Int64) (v_letters : Int32) (v_number : Int32) (v_fine : Int32) : Option (Int32 × Int32 × Int32 × Int32 × Int64 × Int32 × Int32 × Int32) :=
 J_X8_mark_b21 fu v_tape v_taped v_errorAt v_readAt v_start v_kind v_word v_letters v_number v_fine (0 : Int32)
def J_X8_mark (fu : Nat) (v_tape : Nat → Int32) (v_taped : Int32) (v_errorAt : Int32) (v_readAt : Int32) (v_start : Int32) (v_kind : Int32) (v_word : Int64) (v_letters : Int32) (v_number : Int32) (v_fine : Int32) : Option (Int32 × Int32 × Int32 × Int32 × Int64 × Int32 × Int32 × Int32) :=
 if v_fine = 0 then
  J_X8_mark_b20 fu v_tape v_taped v_errorAt v_readAt v_start v_kind v_word v_letters v_number v_fine
 else
  if v_kind = (3 : Int32) then
   J_X8_mark_b21 fu v_tape v_taped v_errorAt v_readAt v_start v_kind v_word v_letters v_number v_fine (1 : Int32)
  else
   J_X8_mark_b20 fu v_tape v_taped v_errorAt v_readAt v_start v_kind v_word v_letters v_number v_fine
def J_X8_policyWord (v_kind : Int32) (v_word : Int64) (v_fine : Int32) : Option (Int32) :=
 (J_X8_isKey v_kind v_word v_fine (220370757 : Int64)).bind fun z1 =>
 if z1 = 0 then
  (J_X8_isKey v_kind v_word v_fine (19057844 : Int64)).bind fun z4 =>
  if z4 = 0 then
   (J_X8_isKey v_kind v_word v_fine (24170600 : Int64)).bind fun z7 =>
   if z7 = 0 then
    some (-1 : Int32)
   else
    some (2 : Int32)
  else
   some (1 : Int32)
 else
  some (0 : Int32)
def J_X8_isWide (v_world : Nat → Int32) (p0 : Int32) : Option (Int32) :=
 (J_X8_in p0 (3 : Int32) (8 : Int32)).bind fun z1 =>
 if z1 = 0 then
  some (0 : Int32)
 else
  (j_rd 1726 v_world (0 : Int32)).bind fun z4 =>
  if ((1 : Int32) <<< (p0 &&& 31)) < (z4 + (2 : Int32)) then
   some (0 : Int32)
  else
   some (1 : Int32)
def J_X8_readSettings_b69 (fu : Nat) (v_tape : Nat → Int32) (v_taped : Int32) (v_errorAt : Int32) (v_world : Nat → Int32) (v_readAt : Int32) (v_start : Int32) (v_kind : Int32) (v_word : Int64) (v_letters : Int32) (v_number : Int32) (v_fine : Int32) (y3 : Int32) (k1 : Int32) : Option (Int32 × (Nat → Int32) × Int32 × Int32 × Int32 × Int64 × Int32 × Int32 × Int32) :=
 (J_X8_accepts fu v_tape v_taped v_errorAt v_readAt v_start v_kind v_word v_letters v_number v_fine k1).bind fun z22 =>
 (j_wr 1726 v_world (2 : Int32) y3).bind fun g24 =>
 (J_X8_numberIn fu v_tape v_taped z22.1 z22.2.1 z22.2.2.1 z22.2.2.2.1 z22.2.2.2.2.1 z22.2.2.2.2.2.1 z22.2.2.2.2.2.2.1 z22.2.2.2.2.2.2.2 (1 : Int32) (200 : Int32)).bind fun z26 =>
 (j_wr 1726 g24 (3 : Int32) z26.1).bind fun g28 =>
 (J_X8_mark fu v_tape v_taped z26.2.1 z26.2.2.1 z26.2.2.2.1 z26.2.2.2.2.1 z26.2.2.2.2.2.1 z26.2.2.2.2.2.2.1 z26.2.2.2.2.2.2.2.1 z26.2.2.2.2.2.2.2.2).bind fun z30 =>
 some (z30.1, g28, z30.2.1, z30.2.2.1, z30.2.2.2.1, z30.2.2.2.2.1, z30.2.2.2.2.2.1, z30.2.2.2.2.2.2.1, z30.2.2.2.2.2.2.2)
def J_X8_readSettings (fu : Nat) (v_tape : Nat → Int32) (v_taped : Int32) (v_errorAt : Int32) (v_world : Nat → Int32) (v_readAt : Int32) (v_start : Int32) (v_kind : Int32) (v_word : Int64) (v_letters : Int32) (v_number : Int32) (v_fine : Int32) : Option (Int32 × (Nat → Int32) × Int32 × Int32 × Int32 × Int64 × Int32 × Int32 × Int32) :=
 (J_X8_isKey v_kind v_word v_fine (13143 : Int64)).bind fun z1 =>
 (J_X8_accepts fu v_tape v_taped v_errorAt v_readAt v_start v_kind v_word v_letters v_number v_fine z1).bind fun z3 =>
 (J_X8_numberIn fu v_tape v_taped z3.1 z3.2.1 z3.2.2.1 z3.2.2.2.1 z3.2.2.2.2.1 z3.2.2.2.2.2.1 z3.2.2.2.2.2.2.1 z3.2.2.2.2.2.2.2 (2 : Int32) (26 : Int32)).bind fun z5 =>
 (J_X8_more (2 : Int32) z5.1).bind fun z7 =>
 (j_wr 1726 v_world (0 : Int32) z7).bind fun g9 =>
 (J_X8_isWide g9 z5.2.2.2.2.2.2.2.1).bind fun z11 =>
 (J_X8_numberIf fu v_tape v_taped z5.2.1 z5.2.2.1 z5.2.2.2.1 z5.2.2.2.2.1 z5.2.2.2.2.2.1 z5.2.2.2.2.2.2.1 z5.2.2.2.2.2.2.2.1 z5.2.2.2.2.2.2.2.2 z11).bind fun z13 =>
 (J_X8_more (3 : Int32) z13.1).bind fun z15 =>
 (j_wr 1726 g9 (1 : Int32) z15).bind fun g17 =>
 (J_X8_policyWord z13.2.2.2.2.1 z13.2.2.2.2.2.1 z13.2.2.2.2.2.2.2.2).bind fun z19 =>
 if z19 < 0 then
  J_X8_readSettings_b69 fu v_tape v_taped z13.2.1 g17 z13.2.2.1 z13.2.2.2.1 z13.2.2.2.2.1 z13.2.2.2.2.2.1 z13.2.2.2.2.2.2.1 z13.2.2.2.2.2.2.2.1 z13.2.2.2.2.2.2.2.2 z19 (0 : Int32)
 else
  J_X8_readSettings_b69 fu v_tape v_taped z13.2.1 g17 z13.2.2.1 z13.2.2.2.1 z13.2.2.2.2.1 z13.2.2.2.2.2.1 z13.2.2.2.2.2.2.1 z13.2.2.2.2.2.2.2.1 z13.2.2.2.2.2.2.2.2 z19 (1 : Int32)
def J_X8_fits (fu : Nat) (v_tape : Nat → Int32) (v_world : Nat → Int32) (p0 : Int32) (p1 : Int32) : Option (Int32) :=
 (j_rd 1726 v_world (6 : Int32)).bind fun z1 =>
 if (z1 + p1) ≤ (400 : Int32) then
  (J_X8_areLetters fu v_tape v_world p0 p1).bind fun z4 =>
  if z4 &&& 1 = z4 then some z4 else none
 else
  some (0 : Int32)
def J_X8_readSymbols_b51 (fu : Nat) (v_tape : Nat → Int32) (v_taped : Int32) (v_errorAt : Int32) (v_world : Nat → Int32) (v_readAt : Int32) (v_start : Int32) (v_kind : Int32) (v_word : Int64) (v_letters : Int32) (v_number : Int32) (v_fine : Int32) (y1 : Int32) (y2 : Int32) (k1 : Int32) : Option (Int32 × (Nat → Int32) × Int32 × Int32 × Int32 × Int64 × Int32 × Int32 × Int32) :=
 (J_X8_accepts fu v_tape v_taped v_errorAt v_readAt v_start v_kind v_word v_letters v_number v_fine k1).bind fun z10 =>
 (J_X8_mark fu v_tape v_taped z10.1 z10.2.1 z10.2.2.1 z10.2.2.2.1 z10.2.2.2.2.1 z10.2.2.2.2.2.1 z10.2.2.2.2.2.2.1 z10.2.2.2.2.2.2.2).bind fun z12 =>
 if z12.2.2.2.2.2.2.2 = 0 then
  some (z12.1, v_world, z12.2.1, z12.2.2.1, z12.2.2.2.1, z12.2.2.2.2.1, z12.2.2.2.2.2.1, z12.2.2.2.2.2.2.1, z12.2.2.2.2.2.2.2)
 else
  (J_X8_encodesTape fu v_tape v_world y1 y2).bind fun z15 =>
  some (z12.1, z15, z12.2.1, z12.2.2.1, z12.2.2.2.1, z12.2.2.2.2.1, z12.2.2.2.2.2.1, z12.2.2.2.2.2.2.1, z12.2.2.2.2.2.2.2)
def J_X8_readSymbols_b50 (fu : Nat) (v_tape : Nat → Int32) (v_taped : Int32) (v_errorAt : Int32) (v_world : Nat → Int32) (v_readAt : Int32) (v_start : Int32) (v_kind : Int32) (v_word : Int64) (v_letters : Int32) (v_number : Int32) (v_fine : Int32) (y1 : Int32) (y2 : Int32) : Option (Int32 × (Nat → Int32) × Int32 × Int32 × Int32 × Int64 × Int32 × Int32 × Int32) :=
 J_X8_readSymbols_b51 fu v_tape v_taped v_errorAt v_world v_readAt v_start v_kind v_word v_letters v_number v_fine y1 y2 (0 : Int32)
def J_X8_readSymbols (fu : Nat) (v_tape : Nat → Int32) (v_taped : Int32) (v_errorAt : Int32) (v_world : Nat → Int32) (v_readAt : Int32) (v_start : Int32) (v_kind : Int32) (v_word : Int64) (v_letters : Int32) (v_number : Int32) (v_fine : Int32) : Option (Int32 × (Nat → Int32) × Int32 × Int32 × Int32 × Int64 × Int32 × Int32 × Int32) :=
 (J_X8_isKey v_kind v_word v_fine (21253668243 : Int64)).bind fun z1 =>
 (J_X8_accepts fu v_tape v_taped v_errorAt v_readAt v_start v_kind v_word v_letters v_number v_fine z1).bind fun z3 =>
 if z3.2.2.2.2.2.2.2 = 0 then
  J_X8_readSymbols_b50 fu v_tape v_taped z3.1 v_world z3.2.1 z3.2.2.1 z3.2.2.2.1 z3.2.2.2.2.1 z3.2.2.2.2.2.1 z3.2.2.2.2.2.2.1 z3.2.2.2.2.2.2.2 z3.2.2.1 z3.2.2.2.2.2.1
 else
  if z3.2.2.2.1 = (1 : Int32) then
   (J_X8_fits fu v_tape v_world z3.2.2.1 z3.2.2.2.2.2.1).bind fun z7 =>
   if z7 = 0 then
    J_X8_readSymbols_b50 fu v_tape v_taped z3.1 v_world z3.2.1 z3.2.2.1 z3.2.2.2.1 z3.2.2.2.2.1 z3.2.2.2.2.2.1 z3.2.2.2.2.2.2.1 z3.2.2.2.2.2.2.2 z3.2.2.1 z3.2.2.2.2.2.1
   else
    J_X8_readSymbols_b51 fu v_tape v_taped z3.1 v_world z3.2.1 z3.2.2.1 z3.2.2.2.1 z3.2.2.2.2.1 z3.2.2.2.2.2.1 z3.2.2.2.2.2.2.1 z3.2.2.2.2.2.2.2 z3.2.2.1 z3.2.2.2.2.2.1 (1 : Int32)
  else
   J_X8_readSymbols_b50 fu v_tape v_taped z3.1 v_world z3.2.1 z3.2.2.1 z3.2.2.2.1 z3.2.2.2.2.1 z3.2.2.2.2.2.1 z3.2.2.2.2.2.2.1 z3.2.2.2.2.2.2.2 z3.2.2.1 z3.2.2.2.2.2.1
def J_X8_startsReading (fu : Nat) (v_tape : Nat → Int32) (v_taped : Int32) (v_errorAt : Int32) (v_readAt : Int32) (v_start : Int32) (v_kind : Int32) (v_word : Int64) (v_letters : Int32) (v_number : Int32) (v_fine : Int32) : Option (Int32 × Int32 × Int32 × Int32 × Int64 × Int32 × Int32 × Int32) :=
 (J_X8_nextToken fu v_tape v_taped (0 : Int32) v_start v_kind v_word v_letters v_number).bind fun z1 =>
 some ((-1 : Int32), z1.1, z1.2.1, z1.2.2.1, z1.2.2.2.1, z1.2.2.2.2.1, z1.2.2.2.2.2, (1 : Int32))
def J_X8_load_b59 (fu : Nat) (v_tape : Nat → Int32) (v_taped : Int32) (v_errorAt : Int32) (v_thrown : Int32) (v_world : Nat → Int32) (v_aside : Nat → Int32) (v_isKept : Nat → Int32) (v_undos : Int32) (v_decodes : Int32) (v_readAt : Int32) (v_start : Int32) (v_kind : Int32) (v_word : Int64) (v_letters : Int32) (v_number : Int32) (v_fine : Int32) : Option (Int32 × Int32 × Int32 × Int32 × (Nat → Int32) × (Nat → Int32) × (Nat → Int32) × Int32 × Int32 × Int32 × Int32 × Int32 × Int64 × Int32 × Int32 × Int32) :=
 if v_fine = 0 then
  (J_X8_takesBack fu v_world v_aside).bind fun z25 =>
  (J_X8_throwing v_thrown (1 : Int32)).bind fun z27 =>
  some (z27.1, (0 : Int32), v_errorAt, z27.2, z25, v_aside, v_isKept, v_undos, v_decodes, v_readAt, v_start, v_kind, v_word, v_letters, v_number, v_fine)
 else
  (j_wr 2 v_isKept (0 : Int32) (vp_nar .boolean (0 : Int32))).bind fun g17 =>
  (j_wr 2 g17 (1 : Int32) (vp_nar .boolean (0 : Int32))).bind fun g19 =>
  (j_rd 1726 v_world (6 : Int32)).bind fun z21 =>
  (J_X8_told v_thrown z21).bind fun z23 =>
  some (z23.1, (0 : Int32), v_errorAt, z23.2, v_world, v_aside, g19, (0 : Int32), (0 : Int32), v_readAt, v_start, v_kind, v_word, v_letters, v_number, v_fine)
def J_X8_load_b38 (fu : Nat) (v_tape : Nat → Int32) : Nat → Int32 → Int32 → Int32 → (Nat → Int32) → (Nat → Int32) → (Nat → Int32) → Int32 → Int32 → Int32 → Int32 → Int32 → Int64 → Int32 → Int32 → Int32 → Option (Int32 × Int32 × Int32 × Int32 × (Nat → Int32) × (Nat → Int32) × (Nat → Int32) × Int32 × Int32 × Int32 × Int32 × Int32 × Int64 × Int32 × Int32 × Int32)
| 0, _, _, _, _, _, _, _, _, _, _, _, _, _, _, _ => none
| n + 1, v_taped, v_errorAt, v_thrown, v_world, v_aside, v_isKept, v_undos, v_decodes, v_readAt, v_start, v_kind, v_word, v_letters, v_number, v_fine =>
 if v_fine = 0 then
  J_X8_load_b59 fu v_tape v_taped v_errorAt v_thrown v_world v_aside v_isKept v_undos v_decodes v_readAt v_start v_kind v_word v_letters v_number v_fine
 else
  if v_kind = 0 then
   J_X8_load_b59 fu v_tape v_taped v_errorAt v_thrown v_world v_aside v_isKept v_undos v_decodes v_readAt v_start v_kind v_word v_letters v_number v_fine
  else
   (J_X8_readSymbols fu v_tape v_taped v_errorAt v_world v_readAt v_start v_kind v_word v_letters v_number v_fine).bind fun z14 =>
   J_X8_load_b38 fu v_tape n v_taped z14.1 v_thrown z14.2.1 v_aside v_isKept v_undos v_decodes z14.2.2.1 z14.2.2.2.1 z14.2.2.2.2.1 z14.2.2.2.2.2.1 z14.2.2.2.2.2.2.1 z14.2.2.2.2.2.2.2.1 z14.2.2.2.2.2.2.2.2
def J_X8_load_b6 (fu : Nat) (v_tape : Nat → Int32) : Nat → Int32 → Int32 → Int32 → (Nat → Int32) → (Nat → Int32) → (Nat → Int32) → Int32 → Int32 → Int32 → Int32 → Int32 → Int64 → Int32 → Int32 → Int32 → Int32 → Option (Int32 × Int32 × Int32 × Int32 × (Nat → Int32) × (Nat → Int32) × (Nat → Int32) × Int32 × Int32 × Int32 × Int32 × Int32 × Int64 × Int32 × Int32 × Int32)
| 0, _, _, _, _, _, _, _, _, _, _, _, _, _, _, _, _ => none
| n + 1, v_taped, v_errorAt, v_thrown, v_world, v_aside, v_isKept, v_undos, v_decodes, v_readAt, v_start, v_kind, v_word, v_letters, v_number, v_fine, y1 =>
 if (1726 : Int32) ≤ y1 then
  (J_X8_startsReading fu v_tape v_taped v_errorAt v_readAt v_start v_kind v_word v_letters v_number v_fine).bind fun z4 =>
  (J_X8_readSettings fu v_tape v_taped z4.1 v_world z4.2.1 z4.2.2.1 z4.2.2.2.1 z4.2.2.2.2.1 z4.2.2.2.2.2.1 z4.2.2.2.2.2.2.1 z4.2.2.2.2.2.2.2).bind fun z6 =>
  (J_X8_starts z6.2.1).bind fun z8 =>
  J_X8_load_b38 fu v_tape fu v_taped z6.1 v_thrown z8 v_aside v_isKept v_undos v_decodes z6.2.2.1 z6.2.2.2.1 z6.2.2.2.2.1 z6.2.2.2.2.2.1 z6.2.2.2.2.2.2.1 z6.2.2.2.2.2.2.2.1 z6.2.2.2.2.2.2.2.2
 else
  (j_wr 1726 v_world y1 (0 : Int32)).bind fun g10 =>
  J_X8_load_b6 fu v_tape n v_taped v_errorAt v_thrown g10 v_aside v_isKept v_undos v_decodes v_readAt v_start v_kind v_word v_letters v_number v_fine (y1 + 1)
def J_X8_load (fu : Nat) (v_tape : Nat → Int32) (v_taped : Int32) (v_errorAt : Int32) (v_thrown : Int32) (v_world : Nat → Int32) (v_aside : Nat → Int32) (v_isKept : Nat → Int32) (v_undos : Int32) (v_decodes : Int32) (v_readAt : Int32) (v_start : Int32) (v_kind : Int32) (v_word : Int64) (v_letters : Int32) (v_number : Int32) (v_fine : Int32) : Option (Int32 × Int32 × Int32 × Int32 × (Nat → Int32) × (Nat → Int32) × (Nat → Int32) × Int32 × Int32 × Int32 × Int32 × Int32 × Int64 × Int32 × Int32 × Int32) :=
 (J_X8_keepsAside fu v_world v_aside).bind fun z1 =>
 J_X8_load_b6 fu v_tape fu v_taped v_errorAt v_thrown v_world z1 v_isKept v_undos v_decodes v_readAt v_start v_kind v_word v_letters v_number v_fine (0 : Int32)
def J_X8_keepsDecoded_b10 (fu : Nat) (v_gained : Nat → Int32) (v_gains : Int32) : Nat → (Nat → Int32) → Int32 → Int32 → Option ((Nat → Int32) × Int32)
| 0, _, _, _ => none
| n + 1, v_decoded, v_decodes, y1 =>
 if v_decodes ≤ y1 then
  some (v_decoded, v_decodes)
 else
  (j_rd 400 v_gained y1).bind fun z2 =>
  (j_wr 400 v_decoded y1 z2).bind fun g4 =>
  J_X8_keepsDecoded_b10 fu v_gained v_gains n g4 v_decodes (y1 + 1)
def J_X8_keepsDecoded (fu : Nat) (v_gained : Nat → Int32) (v_gains : Int32) (v_decoded : Nat → Int32) (v_decodes : Int32) : Option ((Nat → Int32) × Int32) :=
 J_X8_keepsDecoded_b10 fu v_gained v_gains fu v_decoded v_gains (0 : Int32)
def J_X8_decode_b53 (fu : Nat) (v_tape : Nat → Int32) (v_world : Nat → Int32) (v_taped : Int32) (v_errorAt : Int32) (v_thrown : Int32) (v_seenPrefix : Nat → Int32) (v_seenLast : Nat → Int32) (v_seen : Int32) (v_previous : Int32) (v_gained : Nat → Int32) (v_gains : Int32) (v_decoded : Nat → Int32) (v_decodes : Int32) (v_readAt : Int32) (v_start : Int32) (v_kind : Int32) (v_word : Int64) (v_letters : Int32) (v_number : Int32) (v_fine : Int32) : Option (Int32 × Int32 × Int32 × Int32 × (Nat → Int32) × (Nat → Int32) × Int32 × Int32 × (Nat → Int32) × Int32 × (Nat → Int32) × Int32 × Int32 × Int32 × Int32 × Int64 × Int32 × Int32 × Int32) :=
 if v_fine = 0 then
  (J_X8_throwing v_thrown (1 : Int32)).bind fun z22 =>
  some (z22.1, (0 : Int32), v_errorAt, z22.2, v_seenPrefix, v_seenLast, v_seen, v_previous, v_gained, v_gains, v_decoded, v_decodes, v_readAt, v_start, v_kind, v_word, v_letters, v_number, v_fine)
 else
  (J_X8_keepsDecoded fu v_gained v_gains v_decoded v_decodes).bind fun z18 =>
  (J_X8_told v_thrown z18.2).bind fun z20 =>
  some (z20.1, (0 : Int32), v_errorAt, z20.2, v_seenPrefix, v_seenLast, v_seen, v_previous, v_gained, v_gains, z18.1, z18.2, v_readAt, v_start, v_kind, v_word, v_letters, v_number, v_fine)
def J_X8_decode_b8 (fu : Nat) (v_tape : Nat → Int32) (v_world : Nat → Int32) : Nat → Int32 → Int32 → Int32 → (Nat → Int32) → (Nat → Int32) → Int32 → Int32 → (Nat → Int32) → Int32 → (Nat → Int32) → Int32 → Int32 → Int32 → Int32 → Int64 → Int32 → Int32 → Int32 → Option (Int32 × Int32 × Int32 × Int32 × (Nat → Int32) × (Nat → Int32) × Int32 × Int32 × (Nat → Int32) × Int32 × (Nat → Int32) × Int32 × Int32 × Int32 × Int32 × Int64 × Int32 × Int32 × Int32)
| 0, _, _, _, _, _, _, _, _, _, _, _, _, _, _, _, _, _, _ => none
| n + 1, v_taped, v_errorAt, v_thrown, v_seenPrefix, v_seenLast, v_seen, v_previous, v_gained, v_gains, v_decoded, v_decodes, v_readAt, v_start, v_kind, v_word, v_letters, v_number, v_fine =>
 if v_fine = 0 then
  J_X8_decode_b53 fu v_tape v_world v_taped v_errorAt v_thrown v_seenPrefix v_seenLast v_seen v_previous v_gained v_gains v_decoded v_decodes v_readAt v_start v_kind v_word v_letters v_number v_fine
 else
  if v_kind = 0 then
   J_X8_decode_b53 fu v_tape v_world v_taped v_errorAt v_thrown v_seenPrefix v_seenLast v_seen v_previous v_gained v_gains v_decoded v_decodes v_readAt v_start v_kind v_word v_letters v_number v_fine
  else
   if v_kind = (2 : Int32) then
    (J_X8_takes fu v_world v_seenPrefix v_seenLast v_seen v_previous v_gained v_gains v_number).bind fun z10 =>
    if z10.1 = 0 then
     (J_X8_accepts fu v_tape v_taped v_errorAt v_readAt v_start v_kind v_word v_letters v_number v_fine (0 : Int32)).bind fun z13 =>
     J_X8_decode_b8 fu v_tape v_world n v_taped z13.1 v_thrown z10.2.1 z10.2.2.1 z10.2.2.2.1 z10.2.2.2.2.1 z10.2.2.2.2.2.1 z10.2.2.2.2.2.2 v_decoded v_decodes z13.2.1 z13.2.2.1 z13.2.2.2.1 z13.2.2.2.2.1 z13.2.2.2.2.2.1 z13.2.2.2.2.2.2.1 z13.2.2.2.2.2.2.2
    else
     (J_X8_accepts fu v_tape v_taped v_errorAt v_readAt v_start v_kind v_word v_letters v_number v_fine (1 : Int32)).bind fun z15 =>
     J_X8_decode_b8 fu v_tape v_world n v_taped z15.1 v_thrown z10.2.1 z10.2.2.1 z10.2.2.2.1 z10.2.2.2.2.1 z10.2.2.2.2.2.1 z10.2.2.2.2.2.2 v_decoded v_decodes z15.2.1 z15.2.2.1 z15.2.2.2.1 z15.2.2.2.2.1 z15.2.2.2.2.2.1 z15.2.2.2.2.2.2.1 z15.2.2.2.2.2.2.2
   else
    (J_X8_accepts fu v_tape v_taped v_errorAt v_readAt v_start v_kind v_word v_letters v_number v_fine (0 : Int32)).bind fun z8 =>
    J_X8_decode_b8 fu v_tape v_world n v_taped z8.1 v_thrown v_seenPrefix v_seenLast v_seen v_previous v_gained v_gains v_decoded v_decodes z8.2.1 z8.2.2.1 z8.2.2.2.1 z8.2.2.2.2.1 z8.2.2.2.2.2.1 z8.2.2.2.2.2.2.1 z8.2.2.2.2.2.2.2
def J_X8_decode (fu : Nat) (v_tape : Nat → Int32) (v_taped : Int32) (v_errorAt : Int32) (v_thrown : Int32) (v_world : Nat → Int32) (v_seenPrefix : Nat → Int32) (v_seenLast : Nat → Int32) (v_seen : Int32) (v_previous : Int32) (v_gained : Nat → Int32) (v_gains : Int32) (v_decoded : Nat → Int32) (v_decodes : Int32) (v_readAt : Int32) (v_start : Int32) (v_kind : Int32) (v_word : Int64) (v_letters : Int32) (v_number : Int32) (v_fine : Int32) : Option (Int32 × Int32 × Int32 × Int32 × (Nat → Int32) × (Nat → Int32) × Int32 × Int32 × (Nat → Int32) × Int32 × (Nat → Int32) × Int32 × Int32 × Int32 × Int32 × Int64 × Int32 × Int32 × Int32) :=
 (J_X8_startsReading fu v_tape v_taped v_errorAt v_readAt v_start v_kind v_word v_letters v_number v_fine).bind fun z1 =>
 (J_X8_startsDecoder v_world v_seen v_previous v_gains).bind fun z3 =>
 J_X8_decode_b8 fu v_tape v_world fu v_taped z1.1 v_thrown v_seenPrefix v_seenLast z3.1 z3.2.1 v_gained z3.2.2 v_decoded v_decodes z1.2.1 z1.2.2.1 z1.2.2.2.1 z1.2.2.2.2.1 z1.2.2.2.2.2.1 z1.2.2.2.2.2.2.1 z1.2.2.2.2.2.2.2
def J_X8_errorPosition (v_errorAt : Int32) (v_thrown : Int32) : Option (Int32 × Int32) :=
 (J_X8_told v_thrown v_errorAt).bind fun z1 =>
 some (z1.1, z1.2)
def J_X8_tapes_b3 (fu : Nat) : Nat → (Nat → Int32) → Int32 → Int32 → Int32 → Option ((Nat → Int32) × Int32)
| 0, _, _, _, _ => none
| n + 1, v_tape, v_taped, y1, y2 =>
 if y2 < 0 then
  some (v_tape, v_taped)
 else
  (j_wr 800 v_tape v_taped (vp_nar .byte ((y1 >>> (y2 &&& 31)).toInt8.toInt32))).bind fun g2 =>
  J_X8_tapes_b3 fu n g2 (v_taped + (1 : Int32)) y1 (y2 + (-8))
def J_X8_tapes (fu : Nat) (v_tape : Nat → Int32) (v_taped : Int32) (p0 : Int32) : Option ((Nat → Int32) × Int32) :=
 J_X8_tapes_b3 fu fu v_tape v_taped p0 (24 : Int32)
def J_X8_append (fu : Nat) (v_tape : Nat → Int32) (v_taped : Int32) (v_thrown : Int32) (p0 : Int32) (p1 : Int32) (p2 : Int32) (p3 : Int32) (p4 : Int32) : Option (Int32 × (Nat → Int32) × Int32 × Int32) :=
 if v_taped ≤ (780 : Int32) then
  (J_X8_tapes fu v_tape v_taped p0).bind fun z2 =>
  (J_X8_tapes fu z2.1 z2.2 p1).bind fun z4 =>
  (J_X8_tapes fu z4.1 z4.2 p2).bind fun z6 =>
  (J_X8_tapes fu z6.1 z6.2 p3).bind fun z8 =>
  (J_X8_tapes fu z8.1 z8.2 p4).bind fun z10 =>
  (J_X8_told v_thrown z10.2).bind fun z12 =>
  some (z12.1, z10.1, z10.2, z12.2)
 else
  (J_X8_throwing v_thrown (1 : Int32)).bind fun z14 =>
  some (z14.1, v_tape, v_taped, z14.2)
def J_X8_truncate (v_taped : Int32) (v_thrown : Int32) (p0 : Int32) : Option (Int32 × Int32 × Int32) :=
 (J_X8_in p0 (0 : Int32) v_taped).bind fun z1 =>
 if z1 = 0 then
  (J_X8_throwing v_thrown (1 : Int32)).bind fun z6 =>
  some (z6.1, v_taped, z6.2)
 else
  (J_X8_told v_thrown (v_taped - p0)).bind fun z4 =>
  some (z4.1, v_taped - p0, z4.2)
def J_X8_alphabetSize (v_thrown : Int32) (v_world : Nat → Int32) : Option (Int32 × Int32) :=
 (j_rd 1726 v_world (0 : Int32)).bind fun z1 =>
 (J_X8_told v_thrown z1).bind fun z3 =>
 some (z3.1, z3.2)
def J_X8_greatestWidth (v_thrown : Int32) (v_world : Nat → Int32) : Option (Int32 × Int32) :=
 (j_rd 1726 v_world (1 : Int32)).bind fun z1 =>
 (J_X8_told v_thrown z1).bind fun z3 =>
 some (z3.1, z3.2)
def J_X8_policy (v_thrown : Int32) (v_world : Nat → Int32) : Option (Int32 × Int32) :=
 (j_rd 1726 v_world (2 : Int32)).bind fun z1 =>
 (J_X8_told v_thrown z1).bind fun z3 =>
 some (z3.1, z3.2)
def J_X8_limit (v_thrown : Int32) (v_world : Nat → Int32) : Option (Int32 × Int32) :=
 (j_rd 1726 v_world (3 : Int32)).bind fun z1 =>
 (J_X8_told v_thrown z1).bind fun z3 =>
 some (z3.1, z3.2)
def J_X8_plainWidth (fu : Nat) (v_thrown : Int32) (v_world : Nat → Int32) : Option (Int32 × Int32) :=
 (J_X8_plain fu v_world).bind fun z1 =>
 (J_X8_told v_thrown z1).bind fun z3 =>
 some (z3.1, z3.2)
def J_X8_clearCode (v_thrown : Int32) (v_world : Nat → Int32) : Option (Int32 × Int32) :=
 (J_X8_clear v_world).bind fun z1 =>
 (J_X8_told v_thrown z1).bind fun z3 =>
 some (z3.1, z3.2)
def J_X8_codeCount (v_thrown : Int32) (v_world : Nat → Int32) : Option (Int32 × Int32) :=
 (j_rd 1726 v_world (4 : Int32)).bind fun z1 =>
 (J_X8_told v_thrown z1).bind fun z3 =>
 some (z3.1, z3.2)
def J_X8_capacity (v_thrown : Int32) (v_world : Nat → Int32) : Option (Int32 × Int32) :=
 (J_X8_mostCodes v_world).bind fun z1 =>
 (J_X8_told v_thrown z1).bind fun z3 =>
 some (z3.1, z3.2)
def J_X8_isFull (v_thrown : Int32) (v_world : Nat → Int32) : Option (Int32 × Int32) :=
 (J_X8_isAllFull v_world).bind fun z1 =>
 (J_X8_toldIf v_thrown z1).bind fun z3 =>
 if z3.1 &&& 1 = z3.1 then some (z3.1, z3.2) else none
def J_X8_codeWidth (fu : Nat) (v_thrown : Int32) (v_world : Nat → Int32) : Option (Int32 × Int32) :=
 (j_rd 1726 v_world (4 : Int32)).bind fun z1 =>
 (J_X8_bitsFor fu z1).bind fun z3 =>
 (J_X8_told v_thrown z3).bind fun z5 =>
 some (z5.1, z5.2)
def J_X8_phraseLength (fu : Nat) (v_thrown : Int32) (v_world : Nat → Int32) (p0 : Int32) : Option (Int32 × Int32) :=
 (J_X8_isCode v_world p0).bind fun z1 =>
 if z1 = 0 then
  (J_X8_throwing v_thrown (1 : Int32)).bind fun z8 =>
  some (z8.1, z8.2)
 else
  (J_X8_lengthOf fu v_world p0).bind fun z4 =>
  (J_X8_told v_thrown z4).bind fun z6 =>
  some (z6.1, z6.2)
def J_X8_phraseSymbol (fu : Nat) (v_thrown : Int32) (v_world : Nat → Int32) (p0 : Int32) (p1 : Int32) : Option (Int32 × Int32) :=
 (J_X8_isCode v_world p0).bind fun z1 =>
 if z1 = 0 then
  (J_X8_throwing v_thrown (1 : Int32)).bind fun z15 =>
  some (z15.1, z15.2)
 else
  (J_X8_lengthOf fu v_world p0).bind fun z4 =>
  (J_X8_in p1 (0 : Int32) (z4 - (1 : Int32))).bind fun z6 =>
  if z6 = 0 then
   (J_X8_throwing v_thrown (1 : Int32)).bind fun z13 =>
   some (z13.1, z13.2)
  else
   (J_X8_symbolOf fu v_world p0 p1).bind fun z9 =>
   (J_X8_told v_thrown z9).bind fun z11 =>
   some (z11.1, z11.2)
def J_X8_prefixOf (v_thrown : Int32) (v_world : Nat → Int32) (p0 : Int32) : Option (Int32 × Int32) :=
 (J_X8_isCode v_world p0).bind fun z1 =>
 if z1 = 0 then
  (J_X8_throwing v_thrown (1 : Int32)).bind fun z13 =>
  some (z13.1, z13.2)
 else
  (J_X8_isFirst v_world p0).bind fun z4 =>
  if z4 = 0 then
   (j_rd 1726 v_world ((14 : Int32) + p0)).bind fun z7 =>
   (J_X8_told v_thrown z7).bind fun z9 =>
   some (z9.1, z9.2)
  else
   (J_X8_throwing v_thrown (2 : Int32)).bind fun z11 =>
   some (z11.1, z11.2)
def J_X8_extensionOf (fu : Nat) (v_thrown : Int32) (v_world : Nat → Int32) (p0 : Int32) (p1 : Int32) : Option (Int32 × Int32) :=
 (J_X8_isCode v_world p0).bind fun z1 =>
 if z1 = 0 then
  (J_X8_throwing v_thrown (1 : Int32)).bind fun z21 =>
  some (z21.1, z21.2)
 else
  (J_X8_isSymbol v_world p1).bind fun z4 =>
  if z4 = 0 then
   (J_X8_throwing v_thrown (2 : Int32)).bind fun z19 =>
   some (z19.1, z19.2)
  else
   (J_X8_clear v_world).bind fun z7 =>
   if p0 = z7 then
    (J_X8_throwing v_thrown (2 : Int32)).bind fun z17 =>
    some (z17.1, z17.2)
   else
    (J_X8_longer fu v_world p0 p1).bind fun z10 =>
    if (0 : Int32) ≤ z10 then
     (J_X8_told v_thrown z10).bind fun z13 =>
     some (z13.1, z13.2)
    else
     (J_X8_throwing v_thrown (3 : Int32)).bind fun z15 =>
     some (z15.1, z15.2)
def J_X8_extensionCount_b23 (fu : Nat) (v_world : Nat → Int32) : Nat → Int32 → Int32 → Int32 → Int32 → Option (Int32 × Int32)
| 0, _, _, _, _ => none
| n + 1, v_thrown, y1, y2, y3 =>
 (j_rd 1726 v_world (4 : Int32)).bind fun z8 =>
 if z8 ≤ y3 then
  (J_X8_told v_thrown y2).bind fun z11 =>
  some (z11.1, z11.2)
 else
  (j_rd 1726 v_world ((14 : Int32) + y3)).bind fun z13 =>
  if z13 = y1 then
   J_X8_extensionCount_b23 fu v_world n v_thrown y1 (y2 + 1) (y3 + 1)
  else
   J_X8_extensionCount_b23 fu v_world n v_thrown y1 y2 (y3 + 1)
def J_X8_extensionCount (fu : Nat) (v_thrown : Int32) (v_world : Nat → Int32) (p0 : Int32) : Option (Int32 × Int32) :=
 (J_X8_isCode v_world p0).bind fun z1 =>
 if z1 = 0 then
  (J_X8_throwing v_thrown (1 : Int32)).bind fun z6 =>
  some (z6.1, z6.2)
 else
  (J_X8_clear v_world).bind fun z4 =>
  J_X8_extensionCount_b23 fu v_world fu v_thrown p0 (0 : Int32) (z4 + (1 : Int32))
def J_X8_longestPhrase_b10 (fu : Nat) (v_world : Nat → Int32) : Nat → Int32 → Int32 → Int32 → Int32 → Option (Int32 × Int32)
| 0, _, _, _, _ => none
| n + 1, v_thrown, y1, y2, y3 =>
 (j_rd 1726 v_world (4 : Int32)).bind fun z3 =>
 if z3 ≤ y3 then
  (J_X8_told v_thrown y1).bind fun z6 =>
  some (z6.1, z6.2)
 else
  (J_X8_lengthOf fu v_world y3).bind fun z8 =>
  if z8 ≤ y2 then
   J_X8_longestPhrase_b10 fu v_world n v_thrown y1 y2 (y3 + 1)
  else
   J_X8_longestPhrase_b10 fu v_world n v_thrown y3 z8 (y3 + 1)
def J_X8_longestPhrase (fu : Nat) (v_thrown : Int32) (v_world : Nat → Int32) : Option (Int32 × Int32) :=
 (J_X8_lengthOf fu v_world (0 : Int32)).bind fun z1 =>
 J_X8_longestPhrase_b10 fu v_world fu v_thrown (0 : Int32) z1 (1 : Int32)
def J_X8_usesOf_b18 (fu : Nat) (v_world : Nat → Int32) : Nat → Int32 → Int32 → Int32 → Int32 → Option (Int32 × Int32)
| 0, _, _, _, _ => none
| n + 1, v_thrown, y1, y2, y3 =>
 (j_rd 1726 v_world (7 : Int32)).bind fun z6 =>
 if z6 ≤ y3 then
  (J_X8_told v_thrown y2).bind fun z9 =>
  some (z9.1, z9.2)
 else
  (J_X8_codeAt v_world y3).bind fun z11 =>
  if z11 = y1 then
   J_X8_usesOf_b18 fu v_world n v_thrown y1 (y2 + 1) (y3 + 1)
  else
   J_X8_usesOf_b18 fu v_world n v_thrown y1 y2 (y3 + 1)
def J_X8_usesOf (fu : Nat) (v_thrown : Int32) (v_world : Nat → Int32) (p0 : Int32) : Option (Int32 × Int32) :=
 (J_X8_isCode v_world p0).bind fun z1 =>
 if z1 = 0 then
  (J_X8_throwing v_thrown (1 : Int32)).bind fun z4 =>
  some (z4.1, z4.2)
 else
  J_X8_usesOf_b18 fu v_world fu v_thrown p0 (0 : Int32) (0 : Int32)
def J_X8_onTape_b33 (fu : Nat) (v_tape : Nat → Int32) (v_taped : Int32) (v_world : Nat → Int32) : Nat → Int32 → Int32 → Option (Int32)
| 0, _, _ => none
| n + 1, y1, y2 =>
 if v_taped ≤ y2 then
  some y1
 else
  if y1 < 0 then
   some y1
  else
   (j_rd 800 v_tape y2).bind fun z9 =>
   (J_X8_longer fu v_world y1 (z9 - (97 : Int32))).bind fun z11 =>
   J_X8_onTape_b33 fu v_tape v_taped v_world n z11 (y2 + 1)
def J_X8_onTape (fu : Nat) (v_tape : Nat → Int32) (v_taped : Int32) (v_world : Nat → Int32) : Option (Int32) :=
 if v_taped = 0 then
  some (-1 : Int32)
 else
  (J_X8_areLetters fu v_tape v_world (0 : Int32) v_taped).bind fun z2 =>
  if z2 = 0 then
   some (-1 : Int32)
  else
   (j_rd 800 v_tape (0 : Int32)).bind fun z5 =>
   J_X8_onTape_b33 fu v_tape v_taped v_world fu (z5 - (97 : Int32)) (1 : Int32)
def J_X8_findTape (fu : Nat) (v_tape : Nat → Int32) (v_taped : Int32) (v_thrown : Int32) (v_world : Nat → Int32) : Option (Int32 × Int32) :=
 (J_X8_onTape fu v_tape v_taped v_world).bind fun z1 =>
 if (0 : Int32) ≤ z1 then
  (J_X8_told v_thrown z1).bind fun z4 =>
  some (z4.1, z4.2)
 else
  (J_X8_throwing v_thrown (1 : Int32)).bind fun z6 =>
  some (z6.1, z6.2)
def J_X8_hasPhrase_b15 (v_world : Nat → Int32) (v_thrown : Int32) (k1 : Int32) : Option (Int32 × Int32) :=
 (J_X8_toldIf v_thrown k1).bind fun z4 =>
 if z4.1 &&& 1 = z4.1 then some (z4.1, z4.2) else none
def J_X8_hasPhrase (v_thrown : Int32) (v_world : Nat → Int32) : Option (Int32 × Int32) :=
 (j_rd 1726 v_world (5 : Int32)).bind fun z1 =>
 if z1 ≤ 0 then
  J_X8_hasPhrase_b15 v_world v_thrown (0 : Int32)
 else
  J_X8_hasPhrase_b15 v_world v_thrown (1 : Int32)
def J_X8_currentPhrase (v_thrown : Int32) (v_world : Nat → Int32) : Option (Int32 × Int32) :=
 (j_rd 1726 v_world (5 : Int32)).bind fun z1 =>
 if z1 = 0 then
  (J_X8_throwing v_thrown (1 : Int32)).bind fun z8 =>
  some (z8.1, z8.2)
 else
  (j_rd 1726 v_world (5 : Int32)).bind fun z4 =>
  (J_X8_told v_thrown (z4 - (1 : Int32))).bind fun z6 =>
  some (z6.1, z6.2)
def J_X8_wouldEnd (fu : Nat) (v_world : Nat → Int32) (p0 : Int32) : Option (Int32) :=
 (j_rd 1726 v_world (5 : Int32)).bind fun z1 =>
 if (0 : Int32) ≤ (z1 - (1 : Int32)) then
  (J_X8_longer fu v_world (z1 - (1 : Int32)) p0).bind fun z4 =>
  if (0 : Int32) ≤ z4 then
   some (0 : Int32)
  else
   some (1 : Int32)
 else
  some (0 : Int32)
def J_X8_wouldClear (fu : Nat) (v_world : Nat → Int32) : Option (Int32) :=
 (J_X8_isAllFull v_world).bind fun z1 =>
 if z1 = 0 then
  some (0 : Int32)
 else
  (j_rd 1726 v_world (2 : Int32)).bind fun z4 =>
  if z4 = (2 : Int32) then
   (J_X8_bitsSince fu v_world).bind fun z7 =>
   (j_rd 1726 v_world (4 : Int32)).bind fun z9 =>
   (J_X8_bitsFor fu z9).bind fun z11 =>
   (J_X8_symbolsSince fu v_world).bind fun z13 =>
   (j_rd 1726 v_world (5 : Int32)).bind fun z15 =>
   (J_X8_lengthOf fu v_world (z15 - (1 : Int32))).bind fun z17 =>
   (J_X8_percentOf fu v_world (z7 + z11) (z13 + z17)).bind fun z19 =>
   (j_rd 1726 v_world (3 : Int32)).bind fun z21 =>
   if z19 ≤ z21 then
    some (0 : Int32)
   else
    some (1 : Int32)
  else
   (j_rd 1726 v_world (2 : Int32)).bind fun z24 =>
   if z24 = (1 : Int32) then
    some (1 : Int32)
   else
    some (0 : Int32)
def J_X8_clearsBy (fu : Nat) (v_world : Nat → Int32) (p0 : Int32) : Option (Int32) :=
 (J_X8_wouldEnd fu v_world p0).bind fun z1 =>
 if z1 = 0 then
  some (0 : Int32)
 else
  (J_X8_wouldClear fu v_world).bind fun z4 =>
  if z4 = 0 then
   some (0 : Int32)
  else
   some (1 : Int32)
def J_X8_codesBy (fu : Nat) (v_world : Nat → Int32) (p0 : Int32) : Option (Int32) :=
 (J_X8_wouldEnd fu v_world p0).bind fun z1 =>
 if z1 = 0 then
  some (0 : Int32)
 else
  (J_X8_clearsBy fu v_world p0).bind fun z4 =>
  some ((1 : Int32) + z4)
def J_X8_codesIfEncoded (fu : Nat) (v_thrown : Int32) (v_world : Nat → Int32) (p0 : Int32) : Option (Int32 × Int32) :=
 (J_X8_isSymbol v_world p0).bind fun z1 =>
 if z1 = 0 then
  (J_X8_throwing v_thrown (1 : Int32)).bind fun z8 =>
  some (z8.1, z8.2)
 else
  (J_X8_codesBy fu v_world p0).bind fun z4 =>
  (J_X8_told v_thrown z4).bind fun z6 =>
  some (z6.1, z6.2)
def J_X8_clearsIfEncoded (fu : Nat) (v_thrown : Int32) (v_world : Nat → Int32) (p0 : Int32) : Option (Int32 × Int32) :=
 (J_X8_isSymbol v_world p0).bind fun z1 =>
 if z1 = 0 then
  (J_X8_throwing v_thrown (1 : Int32)).bind fun z8 =>
  some (z8.1, z8.2)
 else
  (J_X8_clearsBy fu v_world p0).bind fun z4 =>
  (J_X8_told v_thrown z4).bind fun z6 =>
  some (z6.1, z6.2)
def J_X8_encodedCount (v_thrown : Int32) (v_world : Nat → Int32) : Option (Int32 × Int32) :=
 (j_rd 1726 v_world (6 : Int32)).bind fun z1 =>
 (J_X8_told v_thrown z1).bind fun z3 =>
 some (z3.1, z3.2)
def J_X8_encodedSymbol (v_thrown : Int32) (v_world : Nat → Int32) (p0 : Int32) : Option (Int32 × Int32) :=
 (j_rd 1726 v_world (6 : Int32)).bind fun z1 =>
 (J_X8_in p0 (0 : Int32) (z1 - (1 : Int32))).bind fun z3 =>
 if z3 = 0 then
  (J_X8_throwing v_thrown (1 : Int32)).bind fun z10 =>
  some (z10.1, z10.2)
 else
  (j_rd 1726 v_world ((526 : Int32) + p0)).bind fun z6 =>
  (J_X8_told v_thrown z6).bind fun z8 =>
  some (z8.1, z8.2)
def J_X8_writtenCount (v_thrown : Int32) (v_world : Nat → Int32) : Option (Int32 × Int32) :=
 (j_rd 1726 v_world (7 : Int32)).bind fun z1 =>
 (J_X8_told v_thrown z1).bind fun z3 =>
 some (z3.1, z3.2)
def J_X8_isWritten (v_world : Nat → Int32) (p0 : Int32) : Option (Int32) :=
 (j_rd 1726 v_world (7 : Int32)).bind fun z1 =>
 (J_X8_in p0 (0 : Int32) (z1 - (1 : Int32))).bind fun z3 =>
 if z3 &&& 1 = z3 then some z3 else none
def J_X8_writtenCode (v_thrown : Int32) (v_world : Nat → Int32) (p0 : Int32) : Option (Int32 × Int32) :=
 (J_X8_isWritten v_world p0).bind fun z1 =>
 if z1 = 0 then
  (J_X8_throwing v_thrown (1 : Int32)).bind fun z8 =>
  some (z8.1, z8.2)
 else
  (J_X8_codeAt v_world p0).bind fun z4 =>
  (J_X8_told v_thrown z4).bind fun z6 =>
  some (z6.1, z6.2)
def J_X8_writtenWidth (v_thrown : Int32) (v_world : Nat → Int32) (p0 : Int32) : Option (Int32 × Int32) :=
 (J_X8_isWritten v_world p0).bind fun z1 =>
 if z1 = 0 then
  (J_X8_throwing v_thrown (1 : Int32)).bind fun z8 =>
  some (z8.1, z8.2)
 else
  (J_X8_widthAt v_world p0).bind fun z4 =>
  (J_X8_told v_thrown z4).bind fun z6 =>
  some (z6.1, z6.2)
def J_X8_bitCount (fu : Nat) (v_thrown : Int32) (v_world : Nat → Int32) : Option (Int32 × Int32) :=
 (J_X8_allBits fu v_world).bind fun z1 =>
 (J_X8_told v_thrown z1).bind fun z3 =>
 some (z3.1, z3.2)
def J_X8_bit_b4 (fu : Nat) (v_world : Nat → Int32) : Nat → Int32 → Int32 → Option (Int32)
| 0, _, _ => none
| n + 1, y2, y3 =>
 (J_X8_widthAt v_world y3).bind fun z1 =>
 if y2 < z1 then
  (J_X8_widthAt v_world y3).bind fun z4 =>
  (J_X8_codeAt v_world y3).bind fun z6 =>
  some ((z6 >>> (((z4 - (1 : Int32)) - y2) &&& 31)) &&& (1 : Int32))
 else
  (J_X8_widthAt v_world y3).bind fun z8 =>
  J_X8_bit_b4 fu v_world n (y2 - z8) (y3 + 1)
def J_X8_bit (fu : Nat) (v_world : Nat → Int32) (p0 : Int32) : Option (Int32) :=
 J_X8_bit_b4 fu v_world fu p0 (0 : Int32)
def J_X8_bitAt (fu : Nat) (v_thrown : Int32) (v_world : Nat → Int32) (p0 : Int32) : Option (Int32 × Int32) :=
 (J_X8_allBits fu v_world).bind fun z1 =>
 (J_X8_in p0 (0 : Int32) (z1 - (1 : Int32))).bind fun z3 =>
 if z3 = 0 then
  (J_X8_throwing v_thrown (1 : Int32)).bind fun z10 =>
  some (z10.1, z10.2)
 else
  (J_X8_bit fu v_world p0).bind fun z6 =>
  (J_X8_told v_thrown z6).bind fun z8 =>
  some (z8.1, z8.2)
def J_X8_bytes (fu : Nat) (v_world : Nat → Int32) : Option (Int32) :=
 (J_X8_allBits fu v_world).bind fun z1 =>
 some ((z1 + (7 : Int32)) / (8 : Int32))
def J_X8_byteCount (fu : Nat) (v_thrown : Int32) (v_world : Nat → Int32) : Option (Int32 × Int32) :=
 (J_X8_bytes fu v_world).bind fun z1 =>
 (J_X8_told v_thrown z1).bind fun z3 =>
 some (z3.1, z3.2)
def J_X8_byteAt_b33 (fu : Nat) (v_world : Nat → Int32) : Nat → Int32 → Int32 → Int32 → Int32 → Int32 → Option (Int32 × Int32)
| 0, _, _, _, _, _ => none
| n + 1, v_thrown, y1, y2, y3, y4 =>
 if (((8 : Int32) * y1) + (8 : Int32)) ≤ y4 then
  (J_X8_told v_thrown y3).bind fun z11 =>
  some (z11.1, z11.2)
 else
  if y2 ≤ y4 then
   J_X8_byteAt_b33 fu v_world n v_thrown y1 y2 (((2 : Int32) * y3) + (0 : Int32)) (y4 + 1)
  else
   (J_X8_bit fu v_world y4).bind fun z14 =>
   J_X8_byteAt_b33 fu v_world n v_thrown y1 y2 (((2 : Int32) * y3) + z14) (y4 + 1)
def J_X8_byteAt (fu : Nat) (v_thrown : Int32) (v_world : Nat → Int32) (p0 : Int32) : Option (Int32 × Int32) :=
 (J_X8_bytes fu v_world).bind fun z1 =>
 (J_X8_in p0 (0 : Int32) (z1 - (1 : Int32))).bind fun z3 =>
 if z3 = 0 then
  (J_X8_throwing v_thrown (1 : Int32)).bind fun z8 =>
  some (z8.1, z8.2)
 else
  (J_X8_allBits fu v_world).bind fun z6 =>
  J_X8_byteAt_b33 fu v_world fu v_thrown p0 z6 (0 : Int32) ((8 : Int32) * p0)
def J_X8_clearCount (v_thrown : Int32) (v_world : Nat → Int32) : Option (Int32 × Int32) :=
 (j_rd 1726 v_world (8 : Int32)).bind fun z1 =>
 (J_X8_told v_thrown z1).bind fun z3 =>
 some (z3.1, z3.2)
def J_X8_codesSinceClear (v_thrown : Int32) (v_world : Nat → Int32) : Option (Int32 × Int32) :=
 (j_rd 1726 v_world (7 : Int32)).bind fun z1 =>
 (j_rd 1726 v_world (9 : Int32)).bind fun z3 =>
 (J_X8_told v_thrown (z1 - z3)).bind fun z5 =>
 some (z5.1, z5.2)
def J_X8_symbolsSinceClear (fu : Nat) (v_thrown : Int32) (v_world : Nat → Int32) : Option (Int32 × Int32) :=
 (J_X8_symbolsSince fu v_world).bind fun z1 =>
 (J_X8_told v_thrown z1).bind fun z3 =>
 some (z3.1, z3.2)
def J_X8_bitsSinceClear (fu : Nat) (v_thrown : Int32) (v_world : Nat → Int32) : Option (Int32 × Int32) :=
 (J_X8_bitsSince fu v_world).bind fun z1 =>
 (J_X8_told v_thrown z1).bind fun z3 =>
 some (z3.1, z3.2)
def J_X8_percentSinceClear (fu : Nat) (v_thrown : Int32) (v_world : Nat → Int32) : Option (Int32 × Int32) :=
 (J_X8_percent fu v_world).bind fun z1 =>
 (J_X8_told v_thrown z1).bind fun z3 =>
 some (z3.1, z3.2)
def J_X8_savedBits (fu : Nat) (v_thrown : Int32) (v_world : Nat → Int32) : Option (Int32 × Int32) :=
 (j_rd 1726 v_world (13 : Int32)).bind fun z1 =>
 (J_X8_plain fu v_world).bind fun z3 =>
 (J_X8_allBits fu v_world).bind fun z5 =>
 (J_X8_told v_thrown ((z1 * z3) - z5)).bind fun z7 =>
 some (z7.1, z7.2)
def J_X8_bitsPerSymbol (fu : Nat) (v_thrown : Int32) (v_world : Nat → Int32) : Option (UInt64 × Int32) :=
 (j_rd 1726 v_world (13 : Int32)).bind fun z1 =>
 if z1 = 0 then
  some (FP.dconst0, (0 : Int32))
 else
  (J_X8_allBits fu v_world).bind fun z4 =>
  (j_rd 1726 v_world (13 : Int32)).bind fun z6 =>
  if (FP.ddiv (FP.i2d z4) (FP.i2d z6)) &&& 0x7fffffffffffffff ≤ 0x7ff0000000000000 then
   some (FP.ddiv (FP.i2d z4) (FP.i2d z6), (0 : Int32))
  else none
def J_X8_fillShare (v_thrown : Int32) (v_world : Nat → Int32) : Option (UInt32 × Int32) :=
 (j_rd 1726 v_world (4 : Int32)).bind fun z1 =>
 (J_X8_mostCodes v_world).bind fun z3 =>
 if (FP.fdiv (FP.i2f z1) (FP.i2f z3)) &&& 0x7fffffff ≤ 0x7f800000 then
  some (FP.fdiv (FP.i2f z1) (FP.i2f z3), (0 : Int32))
 else none
def J_X8_decodedCount (v_thrown : Int32) (v_decodes : Int32) : Option (Int32 × Int32) :=
 (J_X8_told v_thrown v_decodes).bind fun z1 =>
 some (z1.1, z1.2)
def J_X8_decodedSymbol (v_thrown : Int32) (v_decoded : Nat → Int32) (v_decodes : Int32) (p0 : Int32) : Option (Int32 × Int32) :=
 (J_X8_in p0 (0 : Int32) (v_decodes - (1 : Int32))).bind fun z1 =>
 if z1 = 0 then
  (J_X8_throwing v_thrown (1 : Int32)).bind fun z8 =>
  some (z8.1, z8.2)
 else
  (j_rd 400 v_decoded p0).bind fun z4 =>
  (J_X8_told v_thrown z4).bind fun z6 =>
  some (z6.1, z6.2)
def J_X8_longestDecodedRun_b6 (fu : Nat) (v_decoded : Nat → Int32) (v_decodes : Int32) : Nat → Int32 → Int32 → Int32 → Int32 → Option (Int32 × Int32)
| 0, _, _, _, _ => none
| n + 1, v_thrown, y1, y2, y3 =>
 if v_decodes ≤ y3 then
  (J_X8_told v_thrown y1).bind fun z2 =>
  some (z2.1, z2.2)
 else
  if y3 ≤ 0 then
   if (0 : Int32) = 0 then
    (J_X8_more y1 (1 : Int32)).bind fun z6 =>
    J_X8_longestDecodedRun_b6 fu v_decoded v_decodes n v_thrown z6 (1 : Int32) (y3 + 1)
   else
    (J_X8_more y1 (y2 + (1 : Int32))).bind fun z8 =>
    J_X8_longestDecodedRun_b6 fu v_decoded v_decodes n v_thrown z8 (y2 + (1 : Int32)) (y3 + 1)
  else
   (j_rd 400 v_decoded y3).bind fun z10 =>
   (j_rd 400 v_decoded (y3 - (1 : Int32))).bind fun z12 =>
   if z10 = z12 then
    if (1 : Int32) = 0 then
     (J_X8_more y1 (1 : Int32)).bind fun z21 =>
     J_X8_longestDecodedRun_b6 fu v_decoded v_decodes n v_thrown z21 (1 : Int32) (y3 + 1)
    else
     (J_X8_more y1 (y2 + (1 : Int32))).bind fun z23 =>
     J_X8_longestDecodedRun_b6 fu v_decoded v_decodes n v_thrown z23 (y2 + (1 : Int32)) (y3 + 1)
   else
    if (0 : Int32) = 0 then
     (J_X8_more y1 (1 : Int32)).bind fun z16 =>
     J_X8_longestDecodedRun_b6 fu v_decoded v_decodes n v_thrown z16 (1 : Int32) (y3 + 1)
    else
     (J_X8_more y1 (y2 + (1 : Int32))).bind fun z18 =>
     J_X8_longestDecodedRun_b6 fu v_decoded v_decodes n v_thrown z18 (y2 + (1 : Int32)) (y3 + 1)
def J_X8_longestDecodedRun (fu : Nat) (v_thrown : Int32) (v_decoded : Nat → Int32) (v_decodes : Int32) : Option (Int32 × Int32) :=
 J_X8_longestDecodedRun_b6 fu v_decoded v_decodes fu v_thrown (0 : Int32) (0 : Int32) (0 : Int32)
def J_X8_restoredCount (fu : Nat) (v_thrown : Int32) (v_world : Nat → Int32) (v_seenPrefix : Nat → Int32) (v_seenLast : Nat → Int32) (v_seen : Int32) (v_previous : Int32) (v_gained : Nat → Int32) (v_gains : Int32) : Option (Int32 × Int32 × (Nat → Int32) × (Nat → Int32) × Int32 × Int32 × (Nat → Int32) × Int32) :=
 (J_X8_decodesWritten fu v_world v_seenPrefix v_seenLast v_seen v_previous v_gained v_gains).bind fun z1 =>
 (J_X8_told v_thrown z1.2.2.2.2.2).bind fun z3 =>
 some (z3.1, z3.2, z1.1, z1.2.1, z1.2.2.1, z1.2.2.2.1, z1.2.2.2.2.1, z1.2.2.2.2.2)
def J_X8_areEncoded_b4 (fu : Nat) (v_world : Nat → Int32) (v_gained : Nat → Int32) (v_gains : Int32) : Nat → Int32 → Int32 → Option (Int32)
| 0, _, _ => none
| n + 1, y1, y2 =>
 if v_gains ≤ y2 then
  if y1 &&& 1 = y1 then some y1 else none
 else
  if y1 = 0 then
   if y1 &&& 1 = y1 then some y1 else none
  else
   (j_rd 400 v_gained y2).bind fun z5 =>
   (j_rd 1726 v_world ((526 : Int32) + y2)).bind fun z7 =>
   if z5 = z7 then
    J_X8_areEncoded_b4 fu v_world v_gained v_gains n (1 : Int32) (y2 + 1)
   else
    J_X8_areEncoded_b4 fu v_world v_gained v_gains n (0 : Int32) (y2 + 1)
def J_X8_areEncoded (fu : Nat) (v_world : Nat → Int32) (v_gained : Nat → Int32) (v_gains : Int32) : Option (Int32) :=
 J_X8_areEncoded_b4 fu v_world v_gained v_gains fu (1 : Int32) (0 : Int32)
def J_X8_isRestored (fu : Nat) (v_thrown : Int32) (v_world : Nat → Int32) (v_seenPrefix : Nat → Int32) (v_seenLast : Nat → Int32) (v_seen : Int32) (v_previous : Int32) (v_gained : Nat → Int32) (v_gains : Int32) : Option (Int32 × Int32 × (Nat → Int32) × (Nat → Int32) × Int32 × Int32 × (Nat → Int32) × Int32) :=
 (J_X8_decodesWritten fu v_world v_seenPrefix v_seenLast v_seen v_previous v_gained v_gains).bind fun z1 =>
 (j_rd 1726 v_world (13 : Int32)).bind fun z3 =>
 if z1.2.2.2.2.2 = z3 then
  (J_X8_areEncoded fu v_world z1.2.2.2.2.1 z1.2.2.2.2.2).bind fun z6 =>
  (J_X8_toldIf v_thrown z6).bind fun z8 =>
  if z8.1 &&& 1 = z8.1 then some (z8.1, z8.2, z1.1, z1.2.1, z1.2.2.1, z1.2.2.2.1, z1.2.2.2.2.1, z1.2.2.2.2.2) else none
 else
  (J_X8_toldIf v_thrown (0 : Int32)).bind fun z11 =>
  if z11.1 &&& 1 = z11.1 then some (z11.1, z11.2, z1.1, z1.2.1, z1.2.2.1, z1.2.2.2.1, z1.2.2.2.2.1, z1.2.2.2.2.2) else none
def J_X8_says (v_text : Nat → Int32) (v_texted : Int32) (p0 : Int32) : Option ((Nat → Int32) × Int32) :=
 (j_wr 500 v_text v_texted (vp_nar .byte p0.toInt8.toInt32)).bind fun g1 =>
 some (g1, v_texted + (1 : Int32))
def J_X8_saysWord_b18 (fu : Nat) : Nat → (Nat → Int32) → Int32 → Int64 → Int32 → Option ((Nat → Int32) × Int32)
| 0, _, _, _, _ => none
| n + 1, v_text, v_texted, y1, y3 =>
 if y3 < 0 then
  some (v_text, v_texted)
 else
  (J_X8_says v_text v_texted ((96 : Int32) + (((y1 >>> (y3.toInt64 &&& 63)) &&& (31 : Int64)).toInt32))).bind fun z3 =>
  J_X8_saysWord_b18 fu n z3.1 z3.2 y1 (y3 + (-5))
def J_X8_saysWord_b2 (fu : Nat) : Nat → (Nat → Int32) → Int32 → Int64 → Int32 → Option ((Nat → Int32) × Int32)
| 0, _, _, _, _ => none
| n + 1, v_text, v_texted, y1, y3 =>
 if (lg_cmp (y1 >>> ((y3 + (5 : Int32)).toInt64 &&& 63)) (0 : Int64)) ≤ 0 then
  J_X8_saysWord_b18 fu fu v_text v_texted y1 y3
 else
  J_X8_saysWord_b2 fu n v_text v_texted y1 (y3 + 5)
def J_X8_saysWord (fu : Nat) (v_text : Nat → Int32) (v_texted : Int32) (p0 : Int64) : Option ((Nat → Int32) × Int32) :=
 J_X8_saysWord_b2 fu fu v_text v_texted p0 (0 : Int32)
def J_X8_saysPart_b24 (fu : Nat) : Nat → (Nat → Int32) → Int32 → Int32 → Int32 → Option ((Nat → Int32) × Int32)
| 0, _, _, _, _ => none
| n + 1, v_text, v_texted, y1, y2 =>
 if y2 ≤ 0 then
  some (v_text, v_texted)
 else
  if y2 = 0 then none else
   (J_X8_says v_text v_texted ((48 : Int32) + ((y1 / y2) - (y1 / y2) / (10 : Int32) * (10 : Int32)))).bind fun z7 =>
  J_X8_saysPart_b24 fu n z7.1 z7.2 y1 (y2 / (10 : Int32))
def J_X8_saysPart_b2 (fu : Nat) : Nat → (Nat → Int32) → Int32 → Int32 → Int32 → Option ((Nat → Int32) × Int32)
| 0, _, _, _, _ => none
| n + 1, v_text, v_texted, y1, y2 =>
 if y2 = 0 then none else
  if (y1 / y2) ≤ (9 : Int32) then
  (J_X8_says v_text v_texted (32 : Int32)).bind fun z3 =>
  J_X8_saysPart_b24 fu fu z3.1 z3.2 y1 y2
 else
  J_X8_saysPart_b2 fu n v_text v_texted y1 (y2 * (10 : Int32))
def J_X8_saysPart (fu : Nat) (v_text : Nat → Int32) (v_texted : Int32) (p0 : Int32) : Option ((Nat → Int32) × Int32) :=
 J_X8_saysPart_b2 fu fu v_text v_texted p0 (1 : Int32)
def J_X8_policyKey (v_world : Nat → Int32) : Option (Int64) :=
 (j_rd 1726 v_world (2 : Int32)).bind fun z1 =>
 if z1 = 0 then
  some (220370757 : Int64)
 else
  (j_rd 1726 v_world (2 : Int32)).bind fun z4 =>
  if z4 = (1 : Int32) then
   some (19057844 : Int64)
  else
   some (24170600 : Int64)
def J_X8_writesSettings (fu : Nat) (v_world : Nat → Int32) (v_text : Nat → Int32) (v_texted : Int32) : Option ((Nat → Int32) × Int32) :=
 (J_X8_saysWord fu v_text v_texted (13143 : Int64)).bind fun z1 =>
 (j_rd 1726 v_world (0 : Int32)).bind fun z3 =>
 (J_X8_saysPart fu z1.1 z1.2 z3).bind fun z5 =>
 (j_rd 1726 v_world (1 : Int32)).bind fun z7 =>
 (J_X8_saysPart fu z5.1 z5.2 z7).bind fun z9 =>
 (J_X8_says z9.1 z9.2 (32 : Int32)).bind fun z11 =>
 (J_X8_policyKey v_world).bind fun z13 =>
 (J_X8_saysWord fu z11.1 z11.2 z13).bind fun z15 =>
 (j_rd 1726 v_world (3 : Int32)).bind fun z17 =>
 (J_X8_saysPart fu z15.1 z15.2 z17).bind fun z19 =>
 (J_X8_says z19.1 z19.2 (59 : Int32)).bind fun z21 =>
 some (z21.1, z21.2)
def J_X8_writesSymbols_b15 (fu : Nat) (v_world : Nat → Int32) : Nat → (Nat → Int32) → Int32 → Int32 → Option ((Nat → Int32) × Int32)
| 0, _, _, _ => none
| n + 1, v_text, v_texted, y1 =>
 (j_rd 1726 v_world (6 : Int32)).bind fun z5 =>
 if z5 ≤ y1 then
  (J_X8_says v_text v_texted (59 : Int32)).bind fun z8 =>
  some (z8.1, z8.2)
 else
  (j_rd 1726 v_world ((526 : Int32) + y1)).bind fun z10 =>
  (J_X8_says v_text v_texted ((97 : Int32) + z10)).bind fun z12 =>
  J_X8_writesSymbols_b15 fu v_world n z12.1 z12.2 (y1 + 1)
def J_X8_writesSymbols (fu : Nat) (v_world : Nat → Int32) (v_text : Nat → Int32) (v_texted : Int32) : Option ((Nat → Int32) × Int32) :=
 (J_X8_saysWord fu v_text v_texted (21253668243 : Int64)).bind fun z1 =>
 (J_X8_says z1.1 z1.2 (32 : Int32)).bind fun z3 =>
 J_X8_writesSymbols_b15 fu v_world fu z3.1 z3.2 (0 : Int32)
def J_X8_writesSetup (fu : Nat) (v_world : Nat → Int32) (v_text : Nat → Int32) (v_texted : Int32) : Option ((Nat → Int32) × Int32) :=
 (J_X8_writesSettings fu v_world v_text (0 : Int32)).bind fun z1 =>
 (j_rd 1726 v_world (6 : Int32)).bind fun z3 =>
 if z3 ≤ 0 then
  some (z1.1, z1.2)
 else
  (J_X8_writesSymbols fu v_world z1.1 z1.2).bind fun z6 =>
  some (z6.1, z6.2)
def J_X8_setupLength (fu : Nat) (v_thrown : Int32) (v_world : Nat → Int32) (v_text : Nat → Int32) (v_texted : Int32) : Option (Int32 × Int32 × (Nat → Int32) × Int32) :=
 (J_X8_writesSetup fu v_world v_text v_texted).bind fun z1 =>
 (J_X8_told v_thrown z1.2).bind fun z3 =>
 some (z3.1, z3.2, z1.1, z1.2)
def J_X8_setupByte (fu : Nat) (v_thrown : Int32) (v_world : Nat → Int32) (v_text : Nat → Int32) (v_texted : Int32) (p0 : Int32) : Option (Int32 × Int32 × (Nat → Int32) × Int32) :=
 (J_X8_writesSetup fu v_world v_text v_texted).bind fun z1 =>
 (J_X8_in p0 (0 : Int32) (z1.2 - (1 : Int32))).bind fun z3 =>
 if z3 = 0 then
  (J_X8_throwing v_thrown (1 : Int32)).bind fun z10 =>
  some (z10.1, z10.2, z1.1, z1.2)
 else
  (j_rd 500 z1.1 p0).bind fun z6 =>
  (J_X8_told v_thrown z6).bind fun z8 =>
  some (z8.1, z8.2, z1.1, z1.2)
