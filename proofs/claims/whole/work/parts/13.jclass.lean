def J_X1_define (d : DS) (p0 : Int32) (p1 : Int32) (p2 : Int32) (p3 : Int32) : Option (DS) :=
 if p0 < 0 then
  some d
 else
  if p0 < (256 : Int32) then
   (j_wr 256 (d_prefix d) p0 p1).bind fun g3 =>
   (j_wr 256 (d_lastSymbol d) p0 p2).bind fun g5 =>
   (j_wr 256 (d_lengths d) p0 p3).bind fun g7 =>
   (j_wr 256 (d_newest d) p0 (-1 : Int32)).bind fun g9 =>
   some (mkD g3 g5 g7 g9 (d_older d) (d_alphabet d) (d_widest d) (d_count d))
  else
   some d
def J_X1_keepFirstCodes_b2 (fu : Nat) : Nat → DS → Int32 → Option (DS)
| 0, _, _ => none
| n + 1, d, y1 =>
 if (d_alphabet d) ≤ y1 then
  (J_X1_define d (d_alphabet d) (-1 : Int32) (-1 : Int32) (0 : Int32)).bind fun z2 =>
  some (mkD (d_prefix z2) (d_lastSymbol z2) (d_lengths z2) (d_newest z2) (d_older z2) (d_alphabet z2) (d_widest z2) ((d_alphabet z2) + (1 : Int32)))
 else
  (J_X1_define d y1 (-1 : Int32) y1 (1 : Int32)).bind fun z4 =>
  J_X1_keepFirstCodes_b2 fu n z4 (y1 + 1)
def J_X1_keepFirstCodes (fu : Nat) (d : DS) : Option (DS) :=
 J_X1_keepFirstCodes_b2 fu fu d (0 : Int32)
def J_X1_begin (fu : Nat) (d : DS) (p0 : Int32) (p1 : Int32) : Option (DS) :=
 (J_X1_keepFirstCodes fu (mkD (d_prefix d) (d_lastSymbol d) (d_lengths d) (d_newest d) (d_older d) p0 p1 (d_count d))).bind fun z1 =>
 some z1
def J_X2_forgetRecent (ee : ES) : Option (ES) :=
 some (mkE (e_d ee) (e_policy ee) (e_limit ee) (e_phrase ee) (e_encoded ee) (e_encodedLength ee) (e_written ee) (e_widths ee) (e_writtenLength ee) (e_bits ee) (e_clears ee) (0 : Int32) (0 : Int32) (0 : Int32))
def J_X2_startAnew (fu : Nat) (ee : ES) : Option (ES) :=
 (J_X1_keepFirstCodes fu (e_d ee)).bind fun z1 =>
 (J_X2_forgetRecent (mkE z1 (e_policy ee) (e_limit ee) (-1 : Int32) (e_encoded ee) (0 : Int32) (e_written ee) (e_widths ee) (0 : Int32) (0 : Int32) (0 : Int32) (e_recentCodes ee) (e_recentSymbols ee) (e_recentBits ee))).bind fun z3 =>
 some z3
def J_X2_begin (fu : Nat) (ee : ES) (p0 : Int32) (p1 : Int32) (p2 : Int32) (p3 : Int32) : Option (ES) :=
 (J_X1_begin fu (e_d ee) p0 p1).bind fun z1 =>
 (J_X2_startAnew fu (mkE z1 p2 p3 (e_phrase ee) (e_encoded ee) (e_encodedLength ee) (e_written ee) (e_widths ee) (e_writtenLength ee) (e_bits ee) (e_clears ee) (e_recentCodes ee) (e_recentSymbols ee) (e_recentBits ee))).bind fun z3 =>
 some z3
def J_X7_put (n0 : Nat) (f0 : Nat → Int32) (p1 : Int32) (p2 : Int32) : Option ((Nat → Int32)) :=
 if p1 < 0 then
  some f0
 else
  if (nI n0) ≤ p1 then
   some f0
  else
   (j_wr n0 f0 p1 p2).bind fun g3 =>
   some g3
def J_X6_begin (t : TS) (n0 : Nat) (f0 : Nat → Int32) (p1 : Int32) : Option (TS) :=
 some (mkT p1 (0 : Int32) (0 : Int32) (0 : Int32))
def J_X7_at (n0 : Nat) (f0 : Nat → Int32) (p1 : Int32) : Option (Int32) :=
 if p1 < 0 then
  some (0 : Int32)
 else
  if (nI n0) ≤ p1 then
   some (0 : Int32)
  else
   (j_rd n0 f0 p1).bind fun z3 =>
   some z3
def J_X6_isBlank (p0 : Int32) : Option (Int32) :=
 if p0 = (32 : Int32) then
  some (1 : Int32)
 else
  if p0 = (10 : Int32) then
   some (1 : Int32)
  else
   some (0 : Int32)
def J_X6_isLetter (p0 : Int32) : Option (Int32) :=
 if p0 < (97 : Int32) then
  some (0 : Int32)
 else
  if (122 : Int32) < p0 then
   some (0 : Int32)
  else
   some (1 : Int32)
def J_X6_readWord_b41 (fu : Nat) (nx : Nat) (fx : Nat → Int32) (t : TS) : Option (TS) :=
 some (mkT (t_textLength t) (1 : Int32) (t_start t) (t_end t))
def J_X6_readWord_b0 (fu : Nat) (nx : Nat) (fx : Nat → Int32) : Nat → TS → Option (TS)
| 0, _ => none
| n + 1, t =>
 if (t_textLength t) ≤ (t_end t) then
  J_X6_readWord_b41 fu nx fx t
 else
  (J_X7_at nx fx (t_end t)).bind fun z8 =>
  (J_X6_isLetter z8).bind fun z10 =>
  if z10 = 0 then
   J_X6_readWord_b41 fu nx fx t
  else
   J_X6_readWord_b0 fu nx fx n (mkT (t_textLength t) (t_kind t) (t_start t) ((t_end t) + (1 : Int32)))
def J_X6_readWord (fu : Nat) (t : TS) (nx : Nat) (fx : Nat → Int32) : Option (TS) :=
 if (t_textLength t) ≤ (t_end t) then
  J_X6_readWord_b41 fu nx fx t
 else
  (J_X7_at nx fx (t_end t)).bind fun z2 =>
  (J_X6_isLetter z2).bind fun z4 =>
  if z4 = 0 then
   J_X6_readWord_b41 fu nx fx t
  else
   J_X6_readWord_b0 fu nx fx fu (mkT (t_textLength t) (t_kind t) (t_start t) ((t_end t) + (1 : Int32)))
def J_X6_isDigit (p0 : Int32) : Option (Int32) :=
 if p0 < (48 : Int32) then
  some (0 : Int32)
 else
  if (57 : Int32) < p0 then
   some (0 : Int32)
  else
   some (1 : Int32)
def J_X6_readNumber_b60 (fu : Nat) (nx : Nat) (fx : Nat → Int32) (t : TS) (k1 : Int32) : Option (TS) :=
 some (mkT (t_textLength t) k1 (t_start t) (t_end t))
def J_X6_readNumber_b41 (fu : Nat) (nx : Nat) (fx : Nat → Int32) (t : TS) : Option (TS) :=
 if (3 : Int32) < ((t_end t) - (t_start t)) then
  J_X6_readNumber_b60 fu nx fx t (4 : Int32)
 else
  J_X6_readNumber_b60 fu nx fx t (2 : Int32)
def J_X6_readNumber_b0 (fu : Nat) (nx : Nat) (fx : Nat → Int32) : Nat → TS → Option (TS)
| 0, _ => none
| n + 1, t =>
 if (t_textLength t) ≤ (t_end t) then
  J_X6_readNumber_b41 fu nx fx t
 else
  (J_X7_at nx fx (t_end t)).bind fun z9 =>
  (J_X6_isDigit z9).bind fun z11 =>
  if z11 = 0 then
   J_X6_readNumber_b41 fu nx fx t
  else
   J_X6_readNumber_b0 fu nx fx n (mkT (t_textLength t) (t_kind t) (t_start t) ((t_end t) + (1 : Int32)))
def J_X6_readNumber (fu : Nat) (t : TS) (nx : Nat) (fx : Nat → Int32) : Option (TS) :=
 if (t_textLength t) ≤ (t_end t) then
  J_X6_readNumber_b41 fu nx fx t
 else
  (J_X7_at nx fx (t_end t)).bind fun z2 =>
  (J_X6_isDigit z2).bind fun z4 =>
  if z4 = 0 then
   J_X6_readNumber_b41 fu nx fx t
  else
   J_X6_readNumber_b0 fu nx fx fu (mkT (t_textLength t) (t_kind t) (t_start t) ((t_end t) + (1 : Int32)))
def J_X6_step_b146 (fu : Nat) (nx : Nat) (fx : Nat → Int32) (t : TS) (k1 : Int32) : Option (TS) :=
 some (mkT (t_textLength t) k1 (t_start t) ((t_start t) + (1 : Int32)))
def J_X6_step_b49 (fu : Nat) (nx : Nat) (fx : Nat → Int32) (t : TS) : Option (TS) :=
 if (t_start t) < (t_textLength t) then
  (J_X7_at nx fx (t_start t)).bind fun z8 =>
  (J_X6_isLetter z8).bind fun z10 =>
  if z10 = 0 then
   (J_X7_at nx fx (t_start t)).bind fun z13 =>
   (J_X6_isDigit z13).bind fun z15 =>
   if z15 = 0 then
    (J_X7_at nx fx (t_start t)).bind fun z18 =>
    if z18 = (59 : Int32) then
     J_X6_step_b146 fu nx fx (mkT (t_textLength t) (t_kind t) (t_start t) (t_start t)) (3 : Int32)
    else
     J_X6_step_b146 fu nx fx (mkT (t_textLength t) (t_kind t) (t_start t) (t_start t)) (4 : Int32)
   else
    (J_X6_readNumber fu (mkT (t_textLength t) (t_kind t) (t_start t) (t_start t)) nx fx).bind fun z21 =>
    some z21
  else
   (J_X6_readWord fu (mkT (t_textLength t) (t_kind t) (t_start t) (t_start t)) nx fx).bind fun z23 =>
   some z23
 else
  some (mkT (t_textLength t) (0 : Int32) (t_start t) (t_start t))
def J_X6_step_b8 (fu : Nat) (nx : Nat) (fx : Nat → Int32) : Nat → TS → Option (TS)
| 0, _ => none
| n + 1, t =>
 if (t_textLength t) ≤ (t_start t) then
  J_X6_step_b49 fu nx fx t
 else
  (J_X7_at nx fx (t_start t)).bind fun z2 =>
  (J_X6_isBlank z2).bind fun z4 =>
  if z4 = 0 then
   J_X6_step_b49 fu nx fx t
  else
   J_X6_step_b8 fu nx fx n (mkT (t_textLength t) (t_kind t) ((t_start t) + (1 : Int32)) (t_end t))
def J_X6_step (fu : Nat) (t : TS) (nx : Nat) (fx : Nat → Int32) : Option (TS) :=
 J_X6_step_b8 fu nx fx fu (mkT (t_textLength t) (t_kind t) (t_end t) (t_end t))
def J_X6_number_b7 (fu : Nat) (t : TS) (nx : Nat) (fx : Nat → Int32) : Nat → Int32 → Int32 → Option (Int32)
| 0, _, _ => none
| n + 1, y1, y2 =>
 if (t_end t) ≤ y2 then
  some y1
 else
  (J_X7_at nx fx y2).bind fun z2 =>
  J_X6_number_b7 fu t nx fx n (((10 : Int32) * y1) + (z2 - (48 : Int32))) (y2 + 1)
def J_X6_number (fu : Nat) (t : TS) (nx : Nat) (fx : Nat → Int32) : Option (Int32) :=
 J_X6_number_b7 fu t nx fx fu (0 : Int32) (t_start t)
def J_X6_isNumber (fu : Nat) (t : TS) (p0 : Int32) (p1 : Int32) (nx : Nat) (fx : Nat → Int32) : Option (Int32) :=
 if (t_kind t) = (2 : Int32) then
  (J_X6_number fu t nx fx).bind fun z2 =>
  if z2 < p0 then
   some (0 : Int32)
  else
   (J_X6_number fu t nx fx).bind fun z5 =>
   if p1 < z5 then
    some (0 : Int32)
   else
    some (1 : Int32)
 else
  some (0 : Int32)
def J_X4_readLetters_b35 (fu : Nat) (t0 : TS) (nx : Nat) (fx : Nat → Int32) : Nat → RS → Int32 → Option (Int32 × RS)
| 0, _, _ => none
| n + 1, r, y2 =>
 if (t_end t0) ≤ y2 then
  some ((1 : Int32), r)
 else
  (J_X7_at nx fx y2).bind fun z4 =>
  if (z4 - (97 : Int32)) < (r_alphabet r) then
   (J_X7_put 400 (r_symbols r) (r_count r) (z4 - (97 : Int32))).bind fun z7 =>
   J_X4_readLetters_b35 fu t0 nx fx n (mkR (r_alphabet r) (r_width r) (r_policy r) (r_limit r) z7 ((r_count r) + (1 : Int32))) (y2 + 1)
  else
   some ((0 : Int32), r)
def J_X4_readLetters (fu : Nat) (r : RS) (t0 : TS) (nx : Nat) (fx : Nat → Int32) : Option (Int32 × RS) :=
 if (t_kind t0) = (1 : Int32) then
  if ((r_count r) + ((t_end t0) - (t_start t0))) ≤ (400 : Int32) then
   J_X4_readLetters_b35 fu t0 nx fx fu r (t_start t0)
  else
   some ((0 : Int32), r)
 else
  some ((0 : Int32), r)
def J_X1_longerBy_b12 (fu : Nat) (d : DS) : Nat → Int32 → Int32 → Int32 → Option (Int32)
| 0, _, _, _ => none
| n + 1, y2, y3, y4 =>
 if (d_alphabet d) ≤ y4 then
  some (-1 : Int32)
 else
  if y3 = (-1 : Int32) then
   some (-1 : Int32)
  else
   (J_X7_at 256 (d_lastSymbol d) y3).bind fun z5 =>
   if z5 = y2 then
    some y3
   else
    (J_X7_at 256 (d_older d) y3).bind fun z8 =>
    J_X1_longerBy_b12 fu d n y2 z8 (y4 + 1)
def J_X1_longerBy (fu : Nat) (d : DS) (p0 : Int32) (p1 : Int32) : Option (Int32) :=
 (J_X7_at 256 (d_newest d) p0).bind fun z1 =>
 J_X1_longerBy_b12 fu d fu p1 z1 (0 : Int32)
def J_X1_room (d : DS) : Option (Int32) :=
 some ((1 : Int32) <<< ((d_widest d) &&& 31))
def J_X1_hasNoRoom (d : DS) : Option (Int32) :=
 (J_X1_room d).bind fun z1 =>
 if (d_count d) < z1 then
  some (0 : Int32)
 else
  some (1 : Int32)
def J_X7_widthFor_b2 (fu : Nat) : Nat → Int32 → Int32 → Option (Int32)
| 0, _, _ => none
| n + 1, y0, y1 =>
 if (30 : Int32) ≤ y1 then
  some y1
 else
  if y0 ≤ ((1 : Int32) <<< (y1 &&& 31)) then
   some y1
  else
   J_X7_widthFor_b2 fu n y0 (y1 + 1)
def J_X7_widthFor (fu : Nat) (p0 : Int32) : Option (Int32) :=
 J_X7_widthFor_b2 fu fu p0 (1 : Int32)
def J_X1_widthOfCodes (fu : Nat) (d : DS) : Option (Int32) :=
 (J_X7_widthFor fu (d_count d)).bind fun z1 =>
 some z1
def J_X1_lengthOf (d : DS) (p0 : Int32) : Option (Int32) :=
 (J_X7_at 256 (d_lengths d) p0).bind fun z1 =>
 some z1
def J_X1_widthOfSymbols (fu : Nat) (d : DS) : Option (Int32) :=
 (J_X7_widthFor fu (d_alphabet d)).bind fun z1 =>
 some z1
def J_X2_percent (fu : Nat) (ee : ES) (p0 : Int32) (p1 : Int32) : Option (Int32) :=
 (J_X1_widthOfSymbols fu (e_d ee)).bind fun z1 =>
 if (0 : Int32) < (p1 * z1) then
  if p1 * z1 = 0 then none else
   some (((100 : Int32) * p0) / (p1 * z1))
 else
  some (0 : Int32)
def J_X2_asksForClearing (fu : Nat) (ee : ES) : Option (Int32) :=
 (J_X1_hasNoRoom (e_d ee)).bind fun z1 =>
 if z1 = 0 then
  some (0 : Int32)
 else
  if (e_policy ee) = 0 then
   some (0 : Int32)
  else
   (J_X1_widthOfCodes fu (e_d ee)).bind fun z5 =>
   (J_X1_lengthOf (e_d ee) (e_phrase ee)).bind fun z7 =>
   if (e_policy ee) = (1 : Int32) then
    some (1 : Int32)
   else
    (J_X2_percent fu ee ((e_recentBits ee) + z5) ((e_recentSymbols ee) + z7)).bind fun z10 =>
    if z10 ≤ (e_limit ee) then
     some (0 : Int32)
    else
     some (1 : Int32)
def J_X2_codesFor (fu : Nat) (ee : ES) (p0 : Int32) : Option (Int32) :=
 if (e_phrase ee) = (-1 : Int32) then
  some (0 : Int32)
 else
  (J_X1_longerBy fu (e_d ee) (e_phrase ee) p0).bind fun z2 =>
  if z2 = (-1 : Int32) then
   (J_X2_asksForClearing fu ee).bind fun z5 =>
   if z5 = 0 then
    some (1 : Int32)
   else
    some (2 : Int32)
  else
   some (0 : Int32)
def J_X2_write (fu : Nat) (ee : ES) (p0 : Int32) : Option (ES) :=
 (J_X1_widthOfCodes fu (e_d ee)).bind fun z1 =>
 (J_X7_put 800 (e_written ee) (e_writtenLength ee) p0).bind fun z3 =>
 (J_X7_put 800 (e_widths ee) (e_writtenLength ee) z1).bind fun z5 =>
 some (mkE (e_d ee) (e_policy ee) (e_limit ee) (e_phrase ee) (e_encoded ee) (e_encodedLength ee) z3 z5 ((e_writtenLength ee) + (1 : Int32)) ((e_bits ee) + z1) (e_clears ee) (e_recentCodes ee) (e_recentSymbols ee) (e_recentBits ee))
def J_X2_writePhrase (fu : Nat) (ee : ES) : Option (ES) :=
 (J_X1_lengthOf (e_d ee) (e_phrase ee)).bind fun z1 =>
 (J_X1_widthOfCodes fu (e_d ee)).bind fun z3 =>
 (J_X2_write fu (mkE (e_d ee) (e_policy ee) (e_limit ee) (e_phrase ee) (e_encoded ee) (e_encodedLength ee) (e_written ee) (e_widths ee) (e_writtenLength ee) (e_bits ee) (e_clears ee) ((e_recentCodes ee) + (1 : Int32)) ((e_recentSymbols ee) + z1) ((e_recentBits ee) + z3)) (e_phrase ee)).bind fun z5 =>
 some z5
def J_X2_writeClear (fu : Nat) (ee : ES) : Option (ES) :=
 (J_X2_write fu ee (d_alphabet (e_d ee))).bind fun z1 =>
 (J_X2_forgetRecent (mkE (e_d z1) (e_policy z1) (e_limit z1) (e_phrase z1) (e_encoded z1) (e_encodedLength z1) (e_written z1) (e_widths z1) (e_writtenLength z1) (e_bits z1) ((e_clears z1) + (1 : Int32)) (e_recentCodes z1) (e_recentSymbols z1) (e_recentBits z1))).bind fun z3 =>
 (J_X1_keepFirstCodes fu (e_d z3)).bind fun z5 =>
 some (mkE z5 (e_policy z3) (e_limit z3) (e_phrase z3) (e_encoded z3) (e_encodedLength z3) (e_written z3) (e_widths z3) (e_writtenLength z3) (e_bits z3) (e_clears z3) (e_recentCodes z3) (e_recentSymbols z3) (e_recentBits z3))
def J_X1_addLonger (d : DS) (p0 : Int32) (p1 : Int32) : Option (Int32 × DS) :=
 (J_X1_lengthOf d p0).bind fun z1 =>
 (J_X1_define d (d_count d) p0 p1 (z1 + (1 : Int32))).bind fun z3 =>
 (J_X7_at 256 (d_newest z3) p0).bind fun z5 =>
 (J_X7_put 256 (d_older z3) (d_count d) z5).bind fun z7 =>
 (J_X7_put 256 (d_newest z3) p0 (d_count d)).bind fun z9 =>
 some ((d_count d), (mkD (d_prefix z3) (d_lastSymbol z3) (d_lengths z3) z9 z7 (d_alphabet z3) (d_widest z3) ((d_count z3) + (1 : Int32))))
def J_X2_replacePhrase_b38 (fu : Nat) (ee : ES) (y1 : Int32) : Option (ES) :=
 some (mkE (e_d ee) (e_policy ee) (e_limit ee) y1 (e_encoded ee) (e_encodedLength ee) (e_written ee) (e_widths ee) (e_writtenLength ee) (e_bits ee) (e_clears ee) (e_recentCodes ee) (e_recentSymbols ee) (e_recentBits ee))
def J_X2_replacePhrase (fu : Nat) (ee : ES) (p0 : Int32) (p1 : Int32) : Option (ES) :=
 (J_X2_writePhrase fu ee).bind fun z1 =>
 if p1 = 0 then
  (J_X1_hasNoRoom (e_d z1)).bind fun z4 =>
  if z4 = 0 then
   (J_X1_addLonger (e_d z1) (e_phrase z1) p0).bind fun z7 =>
   J_X2_replacePhrase_b38 fu (mkE z7.2 (e_policy z1) (e_limit z1) (e_phrase z1) (e_encoded z1) (e_encodedLength z1) (e_written z1) (e_widths z1) (e_writtenLength z1) (e_bits z1) (e_clears z1) (e_recentCodes z1) (e_recentSymbols z1) (e_recentBits z1)) p0
  else
   J_X2_replacePhrase_b38 fu z1 p0
 else
  (J_X2_writeClear fu z1).bind fun z9 =>
  J_X2_replacePhrase_b38 fu z9 p0
def J_X2_takeSymbol_b56 (fu : Nat) (ee : ES) (y1 : Int32) (y2 : Int32) : Option (Int32 × ES) :=
 (J_X7_put 400 (e_encoded ee) (e_encodedLength ee) y1).bind fun z10 =>
 some (y2, (mkE (e_d ee) (e_policy ee) (e_limit ee) (e_phrase ee) z10 ((e_encodedLength ee) + (1 : Int32)) (e_written ee) (e_widths ee) (e_writtenLength ee) (e_bits ee) (e_clears ee) (e_recentCodes ee) (e_recentSymbols ee) (e_recentBits ee)))
def J_X2_takeSymbol_b53 (fu : Nat) (ee : ES) (y1 : Int32) (y2 : Int32) (k1 : Int32) (k2 : Int32) : Option (Int32 × ES) :=
 (J_X2_replacePhrase fu ee k1 k2).bind fun z8 =>
 J_X2_takeSymbol_b56 fu z8 y1 y2
def J_X2_takeSymbol_b35 (fu : Nat) (ee : ES) (y1 : Int32) (y2 : Int32) (k1 : Int32) : Option (Int32 × ES) :=
 J_X2_takeSymbol_b56 fu (mkE (e_d ee) (e_policy ee) (e_limit ee) k1 (e_encoded ee) (e_encodedLength ee) (e_written ee) (e_widths ee) (e_writtenLength ee) (e_bits ee) (e_clears ee) (e_recentCodes ee) (e_recentSymbols ee) (e_recentBits ee)) y1 y2
def J_X2_takeSymbol (fu : Nat) (ee : ES) (p0 : Int32) : Option (Int32 × ES) :=
 (J_X2_codesFor fu ee p0).bind fun z1 =>
 if z1 = 0 then
  if (e_phrase ee) = (-1 : Int32) then
   J_X2_takeSymbol_b35 fu ee p0 z1 p0
  else
   (J_X1_longerBy fu (e_d ee) (e_phrase ee) p0).bind fun z6 =>
   J_X2_takeSymbol_b35 fu ee p0 z1 z6
 else
  if z1 = (2 : Int32) then
   J_X2_takeSymbol_b53 fu ee p0 z1 p0 (1 : Int32)
  else
   J_X2_takeSymbol_b53 fu ee p0 z1 p0 (0 : Int32)
def J_X0_begin (fu : Nat) (o : OS) (d0 : DS) : Option (OS) :=
 (J_X1_begin fu (o_d o) (d_alphabet d0) (d_widest d0)).bind fun z1 =>
 some (mkO z1 (-1 : Int32) (o_symbols o) (0 : Int32))
def J_X1_hasCode (d : DS) (p0 : Int32) : Option (Int32) :=
 if p0 < 0 then
  some (0 : Int32)
 else
  if (d_count d) ≤ p0 then
   some (0 : Int32)
  else
   some (1 : Int32)
def J_X1_symbolOf_b11 (fu : Nat) (d : DS) : Nat → Int32 → Int32 → Int32 → Option (Int32)
| 0, _, _, _ => none
| n + 1, y2, y3, y4 =>
 if y4 ≤ y2 then
  (J_X7_at 256 (d_lastSymbol d) y3).bind fun z4 =>
  some z4
 else
  (J_X7_at 256 (d_prefix d) y3).bind fun z6 =>
  J_X1_symbolOf_b11 fu d n y2 z6 (y4 + (-1))
def J_X1_symbolOf (fu : Nat) (d : DS) (p0 : Int32) (p1 : Int32) : Option (Int32) :=
 (J_X1_lengthOf d p0).bind fun z1 =>
 J_X1_symbolOf_b11 fu d fu p1 p0 (z1 - (1 : Int32))
def J_X0_learn (fu : Nat) (o : OS) (p0 : Int32) : Option (Int32 × OS) :=
 if (o_previous o) = (-1 : Int32) then
  some ((-1 : Int32), o)
 else
  (J_X1_longerBy fu (o_d o) (o_previous o) p0).bind fun z2 =>
  if z2 = (-1 : Int32) then
   (J_X1_hasNoRoom (o_d o)).bind fun z5 =>
   if z5 = 0 then
    (J_X1_addLonger (o_d o) (o_previous o) p0).bind fun z8 =>
    some (z8.1, (mkO z8.2 (o_previous o) (o_symbols o) (o_count o)))
   else
    some (z2, o)
  else
   some (z2, o)
def J_X1_spell_b12 (fu : Nat) (d : DS) (n1 : Nat) : Nat → (Nat → Int32) → Int32 → Int32 → Int32 → Option ((Nat → Int32))
| 0, _, _, _, _ => none
| n + 1, f1, y3, y4, y5 =>
 if y5 < 0 then
  some f1
 else
  (J_X7_at 256 (d_lastSymbol d) y4).bind fun z4 =>
  (J_X7_put n1 f1 (y3 + y5) z4).bind fun z6 =>
  (J_X7_at 256 (d_prefix d) y4).bind fun z8 =>
  J_X1_spell_b12 fu d n1 n z6 y3 z8 (y5 + (-1))
def J_X1_spell (fu : Nat) (d : DS) (p0 : Int32) (n1 : Nat) (f1 : Nat → Int32) (p2 : Int32) : Option ((Nat → Int32)) :=
 (J_X1_lengthOf d p0).bind fun z1 =>
 J_X1_spell_b12 fu d n1 fu f1 p2 p0 (z1 - (1 : Int32))
def J_X0_takePhrase_b54 (fu : Nat) (o : OS) (y4 : Int32) (k1 : Int32) : Option (Int32 × OS) :=
 (J_X1_spell fu (o_d o) k1 400 (o_symbols o) (o_count o)).bind fun z9 =>
 some ((1 : Int32), (mkO (o_d o) k1 z9 ((o_count o) + y4)))
def J_X0_takePhrase (fu : Nat) (o : OS) (p0 : Int32) (p1 : Int32) (p2 : Int32) : Option (Int32 × OS) :=
 (J_X1_lengthOf (o_d o) p1).bind fun z1 =>
 if ((o_count o) + (z1 + p2)) ≤ (400 : Int32) then
  (J_X1_symbolOf fu (o_d o) p1 (0 : Int32)).bind fun z4 =>
  (J_X0_learn fu o z4).bind fun z6 =>
  if p0 = (-1 : Int32) then
   J_X0_takePhrase_b54 fu z6.2 (z1 + p2) z6.1
  else
   J_X0_takePhrase_b54 fu z6.2 (z1 + p2) p0
 else
  some ((0 : Int32), o)
def J_X0_takeCode_b78 (fu : Nat) (o : OS) (k0 : Int32) : Option (Int32 × OS) :=
 if k0 = 0 then
  some ((0 : Int32), o)
 else
  (J_X0_takePhrase fu o (-1 : Int32) (o_previous o) (1 : Int32)).bind fun z16 =>
  if z16.1 = 0 then
   some ((0 : Int32), z16.2)
  else
   some ((1 : Int32), z16.2)
def J_X0_takeCode_b77 (fu : Nat) (o : OS) : Option (Int32 × OS) :=
 J_X0_takeCode_b78 fu o (0 : Int32)
def J_X0_takeCode (fu : Nat) (o : OS) (p0 : Int32) : Option (Int32 × OS) :=
 if p0 = (d_alphabet (o_d o)) then
  (J_X1_keepFirstCodes fu (o_d o)).bind fun z13 =>
  some ((1 : Int32), (mkO z13 (-1 : Int32) (o_symbols o) (o_count o)))
 else
  (J_X1_hasCode (o_d o) p0).bind fun z2 =>
  if z2 = 0 then
   if p0 = (d_count (o_d o)) then
    if (o_previous o) = (-1 : Int32) then
     J_X0_takeCode_b77 fu o
    else
     (J_X1_hasNoRoom (o_d o)).bind fun z7 =>
     if z7 = 0 then
      J_X0_takeCode_b78 fu o (1 : Int32)
     else
      J_X0_takeCode_b77 fu o
   else
    J_X0_takeCode_b77 fu o
  else
   (J_X0_takePhrase fu o p0 p0 (0 : Int32)).bind fun z10 =>
   if z10.1 &&& 1 = z10.1 then some (z10.1, z10.2) else none
def J_X0_readCodes_b51 (fu : Nat) (nx : Nat) (fx : Nat → Int32) (o : OS) (t0 : TS) : Option (Int32 × OS × TS) :=
 if (t_kind t0) = 0 then
  some ((1 : Int32), o, t0)
 else
  some ((0 : Int32), o, t0)
def J_X0_readCodes_b6 (fu : Nat) (nx : Nat) (fx : Nat → Int32) : Nat → OS → TS → Int32 → Option (Int32 × OS × TS)
| 0, _, _, _ => none
| n + 1, o, t0, y2 =>
 if (800 : Int32) ≤ y2 then
  J_X0_readCodes_b51 fu nx fx o t0
 else
  if (t_kind t0) = 0 then
   J_X0_readCodes_b51 fu nx fx o t0
  else
   if (t_kind t0) = (2 : Int32) then
    (J_X6_number fu t0 nx fx).bind fun z6 =>
    (J_X0_takeCode fu o z6).bind fun z8 =>
    if z8.1 = 0 then
     some ((0 : Int32), z8.2, t0)
    else
     (J_X6_step fu t0 nx fx).bind fun z11 =>
     J_X0_readCodes_b6 fu nx fx n z8.2 z11 (y2 + 1)
   else
    some ((0 : Int32), o, t0)
def J_X0_readCodes (fu : Nat) (o : OS) (t0 : TS) (nx : Nat) (fx : Nat → Int32) : Option (Int32 × OS × TS) :=
 (J_X6_step fu t0 nx fx).bind fun z1 =>
 J_X0_readCodes_b6 fu nx fx fu o z1 (0 : Int32)
def J_X7_copyRow (n0 : Nat) (f0 : Nat → Int32) (n1 : Nat) (f1 : Nat → Int32) (p2 : Int32) : Option ((Nat → Int32)) :=
 if (if (if (nI n1) < (nI n0) then (nI n1) else (nI n0)) < p2 then (if (nI n1) < (nI n0) then (nI n1) else (nI n0)) else p2) ≤ 0 then
  some f1
 else
  (j_cpy n0 f0 n1 f1 (0 : Int32) (0 : Int32) (if (if (nI n1) < (nI n0) then (nI n1) else (nI n0)) < p2 then (if (nI n1) < (nI n0) then (nI n1) else (nI n0)) else p2)).bind fun g2 =>
  some g2
def J_X1_copyFrom (d : DS) (d0 : DS) : Option (DS) :=
 (J_X7_copyRow 256 (d_prefix d0) 256 (d_prefix d) (d_count d0)).bind fun z1 =>
 (J_X7_copyRow 256 (d_lastSymbol d0) 256 (d_lastSymbol d) (d_count d0)).bind fun z3 =>
 (J_X7_copyRow 256 (d_lengths d0) 256 (d_lengths d) (d_count d0)).bind fun z5 =>
 (J_X7_copyRow 256 (d_newest d0) 256 (d_newest d) (d_count d0)).bind fun z7 =>
 (J_X7_copyRow 256 (d_older d0) 256 (d_older d) (d_count d0)).bind fun z9 =>
 some (mkD z1 z3 z5 z7 z9 (d_alphabet d0) (d_widest d0) (d_count d0))
def J_X2_copyFrom (ee : ES) (ee0 : ES) : Option (ES) :=
 (J_X1_copyFrom (e_d ee) (e_d ee0)).bind fun z1 =>
 (J_X7_copyRow 400 (e_encoded ee0) 400 (e_encoded ee) (e_encodedLength ee0)).bind fun z3 =>
 (J_X7_copyRow 800 (e_written ee0) 800 (e_written ee) (e_writtenLength ee0)).bind fun z5 =>
 (J_X7_copyRow 800 (e_widths ee0) 800 (e_widths ee) (e_writtenLength ee0)).bind fun z7 =>
 some (mkE z1 (e_policy ee0) (e_limit ee0) (e_phrase ee0) z3 (e_encodedLength ee0) z5 z7 (e_writtenLength ee0) (e_bits ee0) (e_clears ee0) (e_recentCodes ee0) (e_recentSymbols ee0) (e_recentBits ee0))
def J_X2_endPhrase (fu : Nat) (ee : ES) : Option (Int32 × ES) :=
 if (e_phrase ee) = (-1 : Int32) then
  some ((0 : Int32), ee)
 else
  (J_X2_writePhrase fu ee).bind fun z2 =>
  (J_X2_writeClear fu z2).bind fun z4 =>
  some ((2 : Int32), (mkE (e_d z4) (e_policy z4) (e_limit z4) (-1 : Int32) (e_encoded z4) (e_encodedLength z4) (e_written z4) (e_widths z4) (e_writtenLength z4) (e_bits z4) (e_clears z4) (e_recentCodes z4) (e_recentSymbols z4) (e_recentBits z4)))
def J_X1_countLonger_b11 (fu : Nat) (d : DS) : Nat → Int32 → Int32 → Option (Int32)
| 0, _, _ => none
| n + 1, y2, y3 =>
 if (d_alphabet d) ≤ y2 then
  some y2
 else
  if y3 = (-1 : Int32) then
   some y2
  else
   (J_X7_at 256 (d_older d) y3).bind fun z5 =>
   J_X1_countLonger_b11 fu d n (y2 + 1) z5
def J_X1_countLonger (fu : Nat) (d : DS) (p0 : Int32) : Option (Int32) :=
 (J_X7_at 256 (d_newest d) p0).bind fun z1 =>
 J_X1_countLonger_b11 fu d fu (0 : Int32) z1
def J_X1_firstLongest_b4 (fu : Nat) (d : DS) : Nat → Int32 → Int32 → Option (Int32)
| 0, _, _ => none
| n + 1, y1, y2 =>
 if (d_count d) ≤ y2 then
  some y1
 else
  (J_X1_lengthOf d y2).bind fun z2 =>
  (J_X1_lengthOf d y1).bind fun z4 =>
  if z2 ≤ z4 then
   J_X1_firstLongest_b4 fu d n y1 (y2 + 1)
  else
   J_X1_firstLongest_b4 fu d n y2 (y2 + 1)
def J_X1_firstLongest (fu : Nat) (d : DS) : Option (Int32) :=
 J_X1_firstLongest_b4 fu d fu (0 : Int32) (1 : Int32)
def J_X2_countWritten_b4 (fu : Nat) (ee : ES) : Nat → Int32 → Int32 → Int32 → Option (Int32)
| 0, _, _, _ => none
| n + 1, y1, y2, y3 =>
 if (e_writtenLength ee) ≤ y3 then
  some y2
 else
  (J_X7_at 800 (e_written ee) y3).bind fun z2 =>
  if z2 = y1 then
   J_X2_countWritten_b4 fu ee n y1 (y2 + 1) (y3 + 1)
  else
   J_X2_countWritten_b4 fu ee n y1 y2 (y3 + 1)
def J_X2_countWritten (fu : Nat) (ee : ES) (p0 : Int32) : Option (Int32) :=
 J_X2_countWritten_b4 fu ee fu p0 (0 : Int32) (0 : Int32)
def J_X2_bitsFrom_b51 (fu : Nat) (ee : ES) : Nat → Int32 → Int32 → Int32 → Int32 → Int32 → Int32 → Option (Int32 × Int32 × Int32 × Int32 × Int32 × Int32)
| 0, _, _, _, _, _, _ => none
| n + 1, y1, y2, y3, y4, y5, y7 =>
 if y4 ≤ y7 then
  some (y1, y2, y3, y4, y5, y7)
 else
  if (y1 + y2) ≤ y7 then
   some (y1, y2, y3, y4, y5, y7)
  else
   (J_X7_at 800 (e_written ee) y5).bind fun z9 =>
   J_X2_bitsFrom_b51 fu ee n y1 y2 (y3 ||| ((((z9.toUInt32 >>> (((y4 - (1 : Int32)) - y7).toUInt32 &&& Int32.toUInt32 31)).toInt32) &&& (1 : Int32)) <<< ((((y1 + y2) - (1 : Int32)) - y7) &&& 31))) y4 y5 (y7 + 1)
def J_X2_bitsFrom_b8 (fu : Nat) (ee : ES) : Nat → Int32 → Int32 → Int32 → Int32 → Int32 → Option (Int32)
| 0, _, _, _, _, _ => none
| n + 1, y1, y2, y3, y4, y5 =>
 if (e_writtenLength ee) ≤ y5 then
  some y3
 else
  if (y1 + y2) ≤ y4 then
   some y3
  else
   (J_X7_at 800 (e_widths ee) y5).bind fun z3 =>
   (J_X2_bitsFrom_b51 fu ee fu y1 y2 y3 (y4 + z3) y5 (if y4 < y1 then y1 else y4)).bind fun w5 =>
   J_X2_bitsFrom_b8 fu ee n w5.1 w5.2.1 w5.2.2.1 w5.2.2.2.1 (w5.2.2.2.2.1 + 1)
def J_X2_bitsFrom (fu : Nat) (ee : ES) (p0 : Int32) (p1 : Int32) : Option (Int32) :=
 J_X2_bitsFrom_b8 fu ee fu p0 p1 (0 : Int32) (0 : Int32) (0 : Int32)
def J_X2_covered (ee : ES) : Option (Int32) :=
 if (e_phrase ee) = (-1 : Int32) then
  some (e_encodedLength ee)
 else
  (J_X1_lengthOf (e_d ee) (e_phrase ee)).bind fun z2 =>
  some ((e_encodedLength ee) - z2)
def J_X0_takeAll_b2 (fu : Nat) (n0 : Nat) (f0 : Nat → Int32) : Nat → OS → Int32 → Int32 → Option (Int32 × OS)
| 0, _, _, _ => none
| n + 1, o, y2, y3 =>
 if y2 ≤ y3 then
  some ((1 : Int32), o)
 else
  (J_X7_at n0 f0 y3).bind fun z2 =>
  (J_X0_takeCode fu o z2).bind fun z4 =>
  if z4.1 = 0 then
   some ((0 : Int32), z4.2)
  else
   J_X0_takeAll_b2 fu n0 f0 n z4.2 y2 (y3 + 1)
def J_X0_takeAll (fu : Nat) (o : OS) (n0 : Nat) (f0 : Nat → Int32) (p1 : Int32) : Option (Int32 × OS) :=
 J_X0_takeAll_b2 fu n0 f0 fu o p1 (0 : Int32)
def J_X5_addSign (w : SS) (p0 : Int32) : Option (SS) :=
 (J_X7_put 429 (s_text w) (s_length w) p0).bind fun z1 =>
 some (mkS z1 ((s_length w) + (1 : Int32)))
def J_X5_addNumber_b37 (w : SS) (y1 : Int32) : Option (SS) :=
 (J_X5_addSign w ((48 : Int32) + (y1 - y1 / (10 : Int32) * (10 : Int32)))).bind fun z7 =>
 some z7
def J_X5_addNumber_b17 (w : SS) (y1 : Int32) : Option (SS) :=
 if y1 < (10 : Int32) then
  J_X5_addNumber_b37 w y1
 else
  (J_X5_addSign w ((48 : Int32) + ((y1 / (10 : Int32)) - (y1 / (10 : Int32)) / (10 : Int32) * (10 : Int32)))).bind fun z5 =>
  J_X5_addNumber_b37 z5 y1
def J_X5_addNumber (w : SS) (p0 : Int32) : Option (SS) :=
 if p0 < (100 : Int32) then
  J_X5_addNumber_b17 w p0
 else
  (J_X5_addSign w ((48 : Int32) + (p0 / (100 : Int32)))).bind fun z2 =>
  J_X5_addNumber_b17 z2 p0
def J_X5_addSymbols_b2 (fu : Nat) (ee0 : ES) : Nat → SS → Int32 → Option (SS)
| 0, _, _ => none
| n + 1, w, y2 =>
 if (e_encodedLength ee0) ≤ y2 then
  some w
 else
  (J_X7_at 400 (e_encoded ee0) y2).bind fun z2 =>
  (J_X5_addSign w ((97 : Int32) + z2)).bind fun z4 =>
  J_X5_addSymbols_b2 fu ee0 n z4 (y2 + 1)
def J_X5_addSymbols (fu : Nat) (w : SS) (ee0 : ES) : Option (SS) :=
 J_X5_addSymbols_b2 fu ee0 fu w (0 : Int32)
