def J_X6_isWord_b28 (fu : Nat) (t : TS) (s0 : Nat) (nx : Nat) (fx : Nat → Int32) : Nat → Int32 → Option (Int32)
| 0, _ => none
| n + 1, y2 =>
 if (j_len s0) ≤ y2 then
  some (1 : Int32)
 else
  (J_X7_at nx fx ((t_start t) + y2)).bind fun z4 =>
  (j_chr s0 y2).bind fun z6 =>
  if z4 = z6 then
   J_X6_isWord_b28 fu t s0 nx fx n (y2 + 1)
  else
   some (0 : Int32)
def J_X6_isWord (fu : Nat) (t : TS) (s0 : Nat) (nx : Nat) (fx : Nat → Int32) : Option (Int32) :=
 if (t_kind t) = (1 : Int32) then
  if ((t_end t) - (t_start t)) = (j_len s0) then
   J_X6_isWord_b28 fu t s0 nx fx fu (0 : Int32)
  else
   some (0 : Int32)
 else
  some (0 : Int32)
def J_X4_readSizes (fu : Nat) (r : RS) (t0 : TS) (nx : Nat) (fx : Nat → Int32) : Option (Int32 × RS × TS) :=
 (J_X6_step fu t0 nx fx).bind fun z1 =>
 (J_X6_isWord fu z1 3 nx fx).bind fun z3 =>
 if z3 = 0 then
  some ((0 : Int32), r, z1)
 else
  (J_X6_step fu z1 nx fx).bind fun z6 =>
  (J_X6_isNumber fu z6 (2 : Int32) (26 : Int32) nx fx).bind fun z8 =>
  if z8 = 0 then
   some ((0 : Int32), r, z6)
  else
   (J_X6_number fu z6 nx fx).bind fun z11 =>
   (J_X6_step fu z6 nx fx).bind fun z13 =>
   (J_X6_isNumber fu z13 (3 : Int32) (8 : Int32) nx fx).bind fun z15 =>
   if z15 = 0 then
    some ((0 : Int32), (mkR z11 (r_width r) (r_policy r) (r_limit r) (r_symbols r) (r_count r)), z13)
   else
    (J_X6_number fu z13 nx fx).bind fun z18 =>
    if ((1 : Int32) <<< (z18 &&& 31)) < (z11 + (2 : Int32)) then
     some ((0 : Int32), (mkR z11 z18 (r_policy r) (r_limit r) (r_symbols r) (r_count r)), z13)
    else
     some ((1 : Int32), (mkR z11 z18 (r_policy r) (r_limit r) (r_symbols r) (r_count r)), z13)
def J_X4_policyNamed_b2 (fu : Nat) (t0 : TS) (nx : Nat) (fx : Nat → Int32) : Nat → Int32 → Option (Int32)
| 0, _ => none
| n + 1, y1 =>
 if (2 : Int32) < y1 then
  some (-1 : Int32)
 else
  (J_X7_nameOfPolicy y1).bind fun z2 =>
  (J_X6_isWord fu t0 z2 nx fx).bind fun z4 =>
  if z4 = 0 then
   J_X4_policyNamed_b2 fu t0 nx fx n (y1 + 1)
  else
   some y1
def J_X4_policyNamed (fu : Nat) (t0 : TS) (nx : Nat) (fx : Nat → Int32) : Option (Int32) :=
 J_X4_policyNamed_b2 fu t0 nx fx fu (0 : Int32)
def J_X4_readPolicy (fu : Nat) (r : RS) (t0 : TS) (nx : Nat) (fx : Nat → Int32) : Option (Int32 × RS × TS) :=
 (J_X6_step fu t0 nx fx).bind fun z1 =>
 (J_X4_policyNamed fu z1 nx fx).bind fun z3 =>
 if z3 = (-1 : Int32) then
  some ((0 : Int32), (mkR (r_alphabet r) (r_width r) z3 (r_limit r) (r_symbols r) (r_count r)), z1)
 else
  (J_X6_step fu z1 nx fx).bind fun z6 =>
  (J_X6_isNumber fu z6 (1 : Int32) (200 : Int32) nx fx).bind fun z8 =>
  if z8 = 0 then
   some ((0 : Int32), (mkR (r_alphabet r) (r_width r) z3 (r_limit r) (r_symbols r) (r_count r)), z6)
  else
   (J_X6_number fu z6 nx fx).bind fun z11 =>
   (J_X6_step fu z6 nx fx).bind fun z13 =>
   if (t_kind z13) = (3 : Int32) then
    some ((1 : Int32), (mkR (r_alphabet r) (r_width r) z3 z11 (r_symbols r) (r_count r)), z13)
   else
    some ((0 : Int32), (mkR (r_alphabet r) (r_width r) z3 z11 (r_symbols r) (r_count r)), z13)
def J_X4_readStatement (fu : Nat) (r : RS) (t0 : TS) (nx : Nat) (fx : Nat → Int32) : Option (Int32 × RS × TS) :=
 (J_X6_isWord fu t0 4 nx fx).bind fun z1 =>
 if z1 = 0 then
  some ((0 : Int32), r, t0)
 else
  (J_X6_step fu t0 nx fx).bind fun z4 =>
  (J_X4_readLetters fu r z4 nx fx).bind fun z6 =>
  if z6.1 = 0 then
   some ((0 : Int32), z6.2, z4)
  else
   (J_X6_step fu z4 nx fx).bind fun z9 =>
   if (t_kind z9) = (3 : Int32) then
    some ((1 : Int32), z6.2, z9)
   else
    some ((0 : Int32), z6.2, z9)
def J_X4_readStatements_b40 (fu : Nat) (nx : Nat) (fx : Nat → Int32) (r : RS) (t0 : TS) : Option (Int32 × RS × TS) :=
 if (t_kind t0) = 0 then
  some ((1 : Int32), r, t0)
 else
  some ((0 : Int32), r, t0)
def J_X4_readStatements_b6 (fu : Nat) (nx : Nat) (fx : Nat → Int32) : Nat → RS → TS → Int32 → Option (Int32 × RS × TS)
| 0, _, _, _ => none
| n + 1, r, t0, y2 =>
 if (800 : Int32) ≤ y2 then
  J_X4_readStatements_b40 fu nx fx r t0
 else
  if (t_kind t0) = 0 then
   J_X4_readStatements_b40 fu nx fx r t0
  else
   (J_X4_readStatement fu r t0 nx fx).bind fun z5 =>
   if z5.1 = 0 then
    some ((0 : Int32), z5.2.1, z5.2.2)
   else
    (J_X6_step fu z5.2.2 nx fx).bind fun z8 =>
    J_X4_readStatements_b6 fu nx fx n z5.2.1 z8 (y2 + 1)
def J_X4_readStatements (fu : Nat) (r : RS) (t0 : TS) (nx : Nat) (fx : Nat → Int32) : Option (Int32 × RS × TS) :=
 (J_X6_step fu t0 nx fx).bind fun z1 =>
 J_X4_readStatements_b6 fu nx fx fu r z1 (0 : Int32)
def J_X4_readSetup (fu : Nat) (r : RS) (t0 : TS) (nx : Nat) (fx : Nat → Int32) : Option (Int32 × RS × TS) :=
 (J_X4_readSizes fu (mkR (r_alphabet r) (r_width r) (r_policy r) (r_limit r) (r_symbols r) (0 : Int32)) t0 nx fx).bind fun z1 =>
 if z1.1 = 0 then
  some ((0 : Int32), z1.2.1, z1.2.2)
 else
  (J_X4_readPolicy fu z1.2.1 z1.2.2 nx fx).bind fun z4 =>
  if z4.1 = 0 then
   some ((0 : Int32), z4.2.1, z4.2.2)
  else
   (J_X4_readStatements fu z4.2.1 z4.2.2 nx fx).bind fun z7 =>
   if z7.1 = 0 then
    some ((0 : Int32), z7.2.1, z7.2.2)
   else
    some ((1 : Int32), z7.2.1, z7.2.2)
def J_X3_forget (hh : HS) : Option (HS) :=
 some (mkH (h_states hh) (0 : Int32) (h_undoNext hh) (0 : Int32))
def J_X3_remember_b33 (ee0 : ES) (hh : HS) (k1 : Int32) : Option (HS) :=
 some (mkH (h_states hh) (h_savedSlots hh) k1 (if (8 : Int32) < ((h_undoCount hh) + (1 : Int32)) then (8 : Int32) else ((h_undoCount hh) + (1 : Int32))))
def J_X3_remember (hh : HS) (ee0 : ES) : Option (HS) :=
 (J_X3_copyTo hh ((2 : Int32) + (h_undoNext hh)) ee0).bind fun z1 =>
 if (8 : Int32) ≤ ((h_undoNext z1) + (1 : Int32)) then
  J_X3_remember_b33 ee0 z1 (0 : Int32)
 else
  J_X3_remember_b33 ee0 z1 ((h_undoNext z1) + (1 : Int32))
def J_X3_saveIn (hh : HS) (p0 : Int32) (ee1 : ES) : Option (HS) :=
 (J_X3_copyTo hh p0 ee1).bind fun z1 =>
 some (mkH (h_states z1) ((h_savedSlots z1) ||| ((1 : Int32) <<< (p0 &&& 31))) (h_undoNext z1) (h_undoCount z1))
def J_X3_isSaved (hh : HS) (p0 : Int32) : Option (Int32) :=
 if ((((h_savedSlots hh).toUInt32 >>> (p0.toUInt32 &&& Int32.toUInt32 31)).toInt32) &&& (1 : Int32)) = (1 : Int32) then
  some (1 : Int32)
 else
  some (0 : Int32)
def J_X3_fetchSaved (hh : HS) (p0 : Int32) (ee1 : ES) : Option (ES) :=
 (J_X3_copyBack hh p0 ee1).bind fun z1 =>
 some z1
def J_X3_stepBack_b19 (hh : HS) (ee0 : ES) (k1 : Int32) : Option (HS × ES) :=
 (J_X3_copyBack (mkH (h_states hh) (h_savedSlots hh) k1 ((h_undoCount hh) - (1 : Int32))) ((2 : Int32) + k1) ee0).bind fun z2 =>
 some ((mkH (h_states hh) (h_savedSlots hh) k1 ((h_undoCount hh) - (1 : Int32))), z2)
def J_X3_stepBack (hh : HS) (ee0 : ES) : Option (HS × ES) :=
 if (h_undoNext hh) ≤ 0 then
  J_X3_stepBack_b19 hh ee0 (7 : Int32)
 else
  J_X3_stepBack_b19 hh ee0 ((h_undoNext hh) - (1 : Int32))
def J_X5_addText_b2 (fu : Nat) (s0 : Nat) : Nat → SS → Int32 → Option (SS)
| 0, _, _ => none
| n + 1, w, y2 =>
 if (j_len s0) ≤ y2 then
  some w
 else
  (j_chr s0 y2).bind fun z2 =>
  (J_X5_addSign w z2).bind fun z4 =>
  J_X5_addText_b2 fu s0 n z4 (y2 + 1)
def J_X5_addText (fu : Nat) (w : SS) (s0 : Nat) : Option (SS) :=
 J_X5_addText_b2 fu s0 fu w (0 : Int32)
def J_X5_describe (fu : Nat) (w : SS) (ee0 : ES) : Option (SS) :=
 (J_X5_addText fu (mkS (s_text w) (0 : Int32)) 5).bind fun z1 =>
 (J_X5_addNumber z1 (d_alphabet (e_d ee0))).bind fun z3 =>
 (J_X5_addText fu z3 6).bind fun z5 =>
 (J_X5_addNumber z5 (d_widest (e_d ee0))).bind fun z7 =>
 (J_X5_addText fu z7 6).bind fun z9 =>
 (J_X7_nameOfPolicy (e_policy ee0)).bind fun z11 =>
 (J_X5_addText fu z9 z11).bind fun z13 =>
 (J_X5_addText fu z13 6).bind fun z15 =>
 (J_X5_addNumber z15 (e_limit ee0)).bind fun z17 =>
 (J_X5_addText fu z17 7).bind fun z19 =>
 if (e_encodedLength ee0) ≤ 0 then
  some z19
 else
  (J_X5_addText fu z19 8).bind fun z22 =>
  (J_X5_addSymbols fu z22 ee0).bind fun z24 =>
  (J_X5_addText fu z24 7).bind fun z26 =>
  some z26
def J_X7_appendWord_b2 (fu : Nat) : Nat → Int32 → (Nat → Int32) → Int32 → Int32 → Option (Int32 × (Nat → Int32))
| 0, _, _, _, _ => none
| n + 1, c_tapeLength, f_tape, y1, y2 =>
 if (4 : Int32) ≤ y2 then
  some (c_tapeLength + (4 : Int32), f_tape)
 else
  (J_X7_put 800 f_tape (c_tapeLength + y2) (((y1.toUInt32 >>> (((24 : Int32) - ((8 : Int32) * y2)).toUInt32 &&& Int32.toUInt32 31)).toInt32) &&& (255 : Int32))).bind fun z2 =>
  J_X7_appendWord_b2 fu n c_tapeLength z2 y1 (y2 + 1)
def J_X7_appendWord (fu : Nat) (c_tapeLength : Int32) (f_tape : Nat → Int32) (p0 : Int32) : Option (Int32 × (Nat → Int32)) :=
 J_X7_appendWord_b2 fu fu c_tapeLength f_tape p0 (0 : Int32)
def J_X7_append (fu : Nat) (c_tapeLength : Int32) (f_tape : Nat → Int32) (f_dec : Nat → Int32) (ee : ES) (oo : OS) (tt : TS) (rr : RS) (sw : SS) (hh : HS) (p0 : Int32) (p1 : Int32) (p2 : Int32) (p3 : Int32) (p4 : Int32) : Option ((Int32 ⊕ String) × Int32 × (Nat → Int32)) :=
 if (c_tapeLength + (20 : Int32)) ≤ (800 : Int32) then
  (J_X7_appendWord fu c_tapeLength f_tape p0).bind fun z2 =>
  (J_X7_appendWord fu z2.1 z2.2 p1).bind fun z4 =>
  (J_X7_appendWord fu z4.1 z4.2 p2).bind fun z6 =>
  (J_X7_appendWord fu z6.1 z6.2 p3).bind fun z8 =>
  (J_X7_appendWord fu z8.1 z8.2 p4).bind fun z10 =>
  some (Sum.inl z10.1, z10.1, z10.2)
 else
  some (Sum.inr "java/lang/IllegalStateException", c_tapeLength, f_tape)
def J_X7_truncate_b12 (c_tapeLength : Int32) : Option ((Int32 ⊕ String) × Int32) :=
 some (Sum.inr "java/lang/IllegalArgumentException", c_tapeLength)
def J_X7_truncate (c_tapeLength : Int32) (p0 : Int32) : Option ((Int32 ⊕ String) × Int32) :=
 if p0 < 0 then
  J_X7_truncate_b12 c_tapeLength
 else
  if p0 ≤ c_tapeLength then
   some (Sum.inl (c_tapeLength - p0), c_tapeLength - p0)
  else
   J_X7_truncate_b12 c_tapeLength
def J_X7_load_b97 (fu : Nat) (f_tape : Nat → Int32) : Nat → Int32 → Int32 → Int32 → ES → TS → RS → HS → Int32 → Option ((Int32 ⊕ String) × Int32 × Int32 × Int32 × ES × TS × RS × HS)
| 0, _, _, _, _, _, _, _, _ => none
| n + 1, c_tapeLength, c_errorAt, c_decodedLength, ee, tt, rr, hh, y1 =>
 if (r_count rr) ≤ y1 then
  (J_X3_forget hh).bind fun z9 =>
  some (Sum.inl (e_encodedLength ee), c_tapeLength, c_errorAt, (0 : Int32), ee, tt, rr, z9)
 else
  (J_X7_at 400 (r_symbols rr) y1).bind fun z11 =>
  (J_X2_takeSymbol fu ee z11).bind fun z13 =>
  J_X7_load_b97 fu f_tape n c_tapeLength c_errorAt c_decodedLength z13.2 tt rr hh (y1 + 1)
def J_X7_load (fu : Nat) (c_tapeLength : Int32) (c_errorAt : Int32) (c_decodedLength : Int32) (f_tape : Nat → Int32) (ee : ES) (tt : TS) (rr : RS) (hh : HS) : Option ((Int32 ⊕ String) × Int32 × Int32 × Int32 × ES × TS × RS × HS) :=
 (J_X6_begin tt 800 f_tape c_tapeLength).bind fun z1 =>
 (J_X4_readSetup fu rr z1 800 f_tape).bind fun z3 =>
 if z3.1 = 0 then
  some (Sum.inr "java/lang/IllegalArgumentException", (0 : Int32), (t_start z3.2.2), c_decodedLength, ee, z3.2.2, z3.2.1, hh)
 else
  (J_X2_begin fu ee (r_alphabet z3.2.1) (r_width z3.2.1) (r_policy z3.2.1) (r_limit z3.2.1)).bind fun z6 =>
  J_X7_load_b97 fu f_tape fu (0 : Int32) (-1 : Int32) c_decodedLength z6 z3.2.2 z3.2.1 hh (0 : Int32)
def J_X7_decode (fu : Nat) (c_tapeLength : Int32) (c_errorAt : Int32) (c_decodedLength : Int32) (f_tape : Nat → Int32) (f_dec : Nat → Int32) (ee : ES) (oo : OS) (tt : TS) : Option ((Int32 ⊕ String) × Int32 × Int32 × Int32 × (Nat → Int32) × OS × TS) :=
 (J_X6_begin tt 800 f_tape c_tapeLength).bind fun z1 =>
 (J_X0_begin fu oo (e_d ee)).bind fun z3 =>
 (J_X0_readCodes fu z3 z1 800 f_tape).bind fun z5 =>
 if z5.1 = 0 then
  some (Sum.inr "java/lang/IllegalArgumentException", (0 : Int32), (t_start z5.2.2), c_decodedLength, f_dec, z5.2.1, z5.2.2)
 else
  (J_X7_copyRow 400 (o_symbols z5.2.1) 400 f_dec (o_count z5.2.1)).bind fun z8 =>
  some (Sum.inl (o_count z5.2.1), (0 : Int32), (-1 : Int32), (o_count z5.2.1), z8, z5.2.1, z5.2.2)
def J_X7_errorPosition (c_errorAt : Int32) : Option (Int32) :=
 some c_errorAt
def J_X7_isSymbol (ee : ES) (p0 : Int32) : Option (Int32) :=
 if p0 < 0 then
  some (0 : Int32)
 else
  if (d_alphabet (e_d ee)) ≤ p0 then
   some (0 : Int32)
  else
   some (1 : Int32)
def J_X7_requireSymbol (f_tape : Nat → Int32) (f_dec : Nat → Int32) (ee : ES) (oo : OS) (tt : TS) (rr : RS) (sw : SS) (hh : HS) (p0 : Int32) : Option ((Unit ⊕ String)) :=
 (J_X7_isSymbol ee p0).bind fun z1 =>
 if z1 = 0 then
  some (Sum.inr "java/lang/IllegalArgumentException")
 else
  some (Sum.inl ())
def J_X7_encode (fu : Nat) (f_tape : Nat → Int32) (f_dec : Nat → Int32) (ee : ES) (oo : OS) (tt : TS) (rr : RS) (sw : SS) (hh : HS) (p0 : Int32) : Option ((Int32 ⊕ String) × ES × HS) :=
 (J_X7_requireSymbol f_tape f_dec ee oo tt rr sw hh p0).bind fun z1 =>
 j_try z1 (fun _ =>
 if (e_encodedLength ee) < (400 : Int32) then
  (J_X3_remember hh ee).bind fun z4 =>
  (J_X2_takeSymbol fu ee p0).bind fun z6 =>
  some (Sum.inl z6.1, z6.2, z4)
 else
  some (Sum.inr "java/lang/IllegalStateException", ee, hh)) (fun E2 => some (Sum.inr E2, ee, hh))
def J_X7_encodeTape_b87 (fu : Nat) (f_tape : Nat → Int32) (f_dec : Nat → Int32) (oo : OS) (tt : TS) (rr : RS) (sw : SS) : Nat → Int32 → ES → HS → Int32 → Int32 → Option ((Int32 ⊕ String) × Int32 × ES × HS)
| 0, _, _, _, _, _ => none
| n + 1, c_tapeLength, ee, hh, y1, y2 =>
 if c_tapeLength ≤ y2 then
  some (Sum.inl y1, (0 : Int32), ee, hh)
 else
  (J_X7_at 800 f_tape y2).bind fun z11 =>
  (J_X2_takeSymbol fu ee (z11 - (97 : Int32))).bind fun z13 =>
  J_X7_encodeTape_b87 fu f_tape f_dec oo tt rr sw n c_tapeLength z13.2 hh (y1 + z13.1) (y2 + 1)
def J_X7_encodeTape_b2 (fu : Nat) (f_tape : Nat → Int32) (f_dec : Nat → Int32) (oo : OS) (tt : TS) (rr : RS) (sw : SS) : Nat → Int32 → ES → HS → Int32 → Option ((Int32 ⊕ String) × Int32 × ES × HS)
| 0, _, _, _, _ => none
| n + 1, c_tapeLength, ee, hh, y1 =>
 if c_tapeLength ≤ y1 then
  if ((e_encodedLength ee) + c_tapeLength) ≤ (400 : Int32) then
   (J_X3_remember hh ee).bind fun z3 =>
   J_X7_encodeTape_b87 fu f_tape f_dec oo tt rr sw fu c_tapeLength ee z3 (0 : Int32) (0 : Int32)
  else
   some (Sum.inr "java/lang/IllegalStateException", c_tapeLength, ee, hh)
 else
  (J_X7_at 800 f_tape y1).bind fun z5 =>
  (J_X7_isSymbol ee (z5 - (97 : Int32))).bind fun z7 =>
  if z7 = 0 then
   some (Sum.inr "java/lang/IllegalArgumentException", c_tapeLength, ee, hh)
  else
   J_X7_encodeTape_b2 fu f_tape f_dec oo tt rr sw n c_tapeLength ee hh (y1 + 1)
def J_X7_encodeTape (fu : Nat) (c_tapeLength : Int32) (f_tape : Nat → Int32) (f_dec : Nat → Int32) (ee : ES) (oo : OS) (tt : TS) (rr : RS) (sw : SS) (hh : HS) : Option ((Int32 ⊕ String) × Int32 × ES × HS) :=
 J_X7_encodeTape_b2 fu f_tape f_dec oo tt rr sw fu c_tapeLength ee hh (0 : Int32)
def J_X7_flush (fu : Nat) (ee : ES) (hh : HS) : Option (Int32 × ES × HS) :=
 (J_X3_remember hh ee).bind fun z1 =>
 (J_X2_endPhrase fu ee).bind fun z3 =>
 some (z3.1, z3.2, z1)
def J_X7_restart (fu : Nat) (ee : ES) (hh : HS) : Option (Int32 × ES × HS) :=
 (J_X3_remember hh ee).bind fun z1 =>
 (J_X2_startAnew fu ee).bind fun z3 =>
 some ((e_writtenLength ee), z3, z1)
def J_X7_setPolicy_b24 (ee : ES) (hh : HS) (y1 : Int32) : Option ((Int32 ⊕ String) × ES × HS) :=
 (J_X3_remember hh ee).bind fun z4 =>
 some (Sum.inl (e_policy ee), (mkE (e_d ee) y1 (e_limit ee) (e_phrase ee) (e_encoded ee) (e_encodedLength ee) (e_written ee) (e_widths ee) (e_writtenLength ee) (e_bits ee) (e_clears ee) (e_recentCodes ee) (e_recentSymbols ee) (e_recentBits ee)), z4)
def J_X7_setPolicy (ee : ES) (hh : HS) (p0 : Int32) : Option ((Int32 ⊕ String) × ES × HS) :=
 if p0 = 0 then
  J_X7_setPolicy_b24 ee hh p0
 else
  if p0 = (1 : Int32) then
   J_X7_setPolicy_b24 ee hh p0
  else
   if p0 = (2 : Int32) then
    J_X7_setPolicy_b24 ee hh p0
   else
    some (Sum.inr "java/lang/IllegalArgumentException", ee, hh)
def J_X7_setLimit_b12 (ee : ES) (hh : HS) : Option ((Int32 ⊕ String) × ES × HS) :=
 some (Sum.inr "java/lang/IllegalArgumentException", ee, hh)
def J_X7_setLimit (ee : ES) (hh : HS) (p0 : Int32) : Option ((Int32 ⊕ String) × ES × HS) :=
 if p0 < (1 : Int32) then
  J_X7_setLimit_b12 ee hh
 else
  if p0 ≤ (200 : Int32) then
   (J_X3_remember hh ee).bind fun z3 =>
   some (Sum.inl (e_limit ee), (mkE (e_d ee) (e_policy ee) p0 (e_phrase ee) (e_encoded ee) (e_encodedLength ee) (e_written ee) (e_widths ee) (e_writtenLength ee) (e_bits ee) (e_clears ee) (e_recentCodes ee) (e_recentSymbols ee) (e_recentBits ee)), z3)
  else
   J_X7_setLimit_b12 ee hh
def J_X7_requireSlot_b9 : Option ((Unit ⊕ String)) :=
 some (Sum.inr "java/lang/IllegalArgumentException")
def J_X7_requireSlot (p0 : Int32) : Option ((Unit ⊕ String)) :=
 if p0 < 0 then
  J_X7_requireSlot_b9
 else
  if p0 < (2 : Int32) then
   some (Sum.inl ())
  else
   J_X7_requireSlot_b9
def J_X7_save (ee : ES) (hh : HS) (p0 : Int32) : Option ((Unit ⊕ String) × HS) :=
 (J_X7_requireSlot p0).bind fun z1 =>
 j_try z1 (fun _ =>
 (J_X3_saveIn hh p0 ee).bind fun z3 =>
 some (Sum.inl (), z3)) (fun E2 => some (Sum.inr E2, hh))
def J_X7_restore (ee : ES) (hh : HS) (p0 : Int32) : Option ((Int32 ⊕ String) × ES × HS) :=
 (J_X7_requireSlot p0).bind fun z1 =>
 j_try z1 (fun _ =>
 (J_X3_isSaved hh p0).bind fun z3 =>
 if z3 = 0 then
  some (Sum.inr "java/util/NoSuchElementException", ee, hh)
 else
  (J_X3_remember hh ee).bind fun z6 =>
  (J_X3_fetchSaved z6 p0 ee).bind fun z8 =>
  some (Sum.inl (e_encodedLength z8), z8, z6)) (fun E2 => some (Sum.inr E2, ee, hh))
def J_X7_undo (ee : ES) (hh : HS) : Option ((Int32 ⊕ String) × ES × HS) :=
 if (0 : Int32) < (h_undoCount hh) then
  (J_X3_stepBack hh ee).bind fun z2 =>
  some (Sum.inl (h_undoCount z2.1), z2.2, z2.1)
 else
  some (Sum.inr "java/lang/IllegalStateException", ee, hh)
def J_X7_alphabetSize (ee : ES) : Option (Int32) :=
 some (d_alphabet (e_d ee))
def J_X7_greatestWidth (ee : ES) : Option (Int32) :=
 some (d_widest (e_d ee))
def J_X7_policy (ee : ES) : Option (Int32) :=
 some (e_policy ee)
def J_X7_limit (ee : ES) : Option (Int32) :=
 some (e_limit ee)
def J_X7_plainWidth (fu : Nat) (ee : ES) : Option (Int32) :=
 (J_X1_widthOfSymbols fu (e_d ee)).bind fun z1 =>
 some z1
def J_X7_clearCode (ee : ES) : Option (Int32) :=
 some (d_alphabet (e_d ee))
def J_X7_codeCount (ee : ES) : Option (Int32) :=
 some (d_count (e_d ee))
def J_X7_capacity (ee : ES) : Option (Int32) :=
 (J_X1_room (e_d ee)).bind fun z1 =>
 some z1
def J_X7_isFull (ee : ES) : Option (Int32) :=
 (J_X1_hasNoRoom (e_d ee)).bind fun z1 =>
 if z1 &&& 1 = z1 then some z1 else none
def J_X7_codeWidth (fu : Nat) (ee : ES) : Option (Int32) :=
 (J_X1_widthOfCodes fu (e_d ee)).bind fun z1 =>
 some z1
def J_X7_requireIndex_b9 : Option ((Unit ⊕ String)) :=
 some (Sum.inr "java/lang/IndexOutOfBoundsException")
def J_X7_requireIndex (p0 : Int32) (p1 : Int32) : Option ((Unit ⊕ String)) :=
 if p0 < 0 then
  J_X7_requireIndex_b9
 else
  if p0 < p1 then
   some (Sum.inl ())
  else
   J_X7_requireIndex_b9
def J_X7_requireCode (ee : ES) (p0 : Int32) : Option ((Unit ⊕ String)) :=
 (J_X7_requireIndex p0 (d_count (e_d ee))).bind fun z1 =>
 j_try z1 (fun _ =>
 some (Sum.inl ())) (fun E2 => some (Sum.inr E2))
def J_X7_phraseLength (f_tape : Nat → Int32) (f_dec : Nat → Int32) (ee : ES) (oo : OS) (tt : TS) (rr : RS) (sw : SS) (hh : HS) (p0 : Int32) : Option ((Int32 ⊕ String)) :=
 (J_X7_requireCode ee p0).bind fun z1 =>
 j_try z1 (fun _ =>
 (J_X1_lengthOf (e_d ee) p0).bind fun z3 =>
 some (Sum.inl z3)) (fun E2 => some (Sum.inr E2))
def J_X7_phraseSymbol (fu : Nat) (f_tape : Nat → Int32) (f_dec : Nat → Int32) (ee : ES) (oo : OS) (tt : TS) (rr : RS) (sw : SS) (hh : HS) (p0 : Int32) (p1 : Int32) : Option ((Int32 ⊕ String)) :=
 (J_X7_requireCode ee p0).bind fun z1 =>
 j_try z1 (fun _ =>
 (J_X1_lengthOf (e_d ee) p0).bind fun z3 =>
 (J_X7_requireIndex p1 z3).bind fun z5 =>
 j_try z5 (fun _ =>
 (J_X1_symbolOf fu (e_d ee) p0 p1).bind fun z7 =>
 some (Sum.inl z7)) (fun E6 => some (Sum.inr E6))) (fun E2 => some (Sum.inr E2))
def J_X7_prefixOf (f_tape : Nat → Int32) (f_dec : Nat → Int32) (ee : ES) (oo : OS) (tt : TS) (rr : RS) (sw : SS) (hh : HS) (p0 : Int32) : Option ((Int32 ⊕ String)) :=
 (J_X7_requireCode ee p0).bind fun z1 =>
 j_try z1 (fun _ =>
 (J_X1_lengthOf (e_d ee) p0).bind fun z3 =>
 if (2 : Int32) ≤ z3 then
  (J_X7_at 256 (d_prefix (e_d ee)) p0).bind fun z6 =>
  some (Sum.inl z6)
 else
  some (Sum.inr "java/util/NoSuchElementException")) (fun E2 => some (Sum.inr E2))
def J_X7_extensionOf (fu : Nat) (f_tape : Nat → Int32) (f_dec : Nat → Int32) (ee : ES) (oo : OS) (tt : TS) (rr : RS) (sw : SS) (hh : HS) (p0 : Int32) (p1 : Int32) : Option ((Int32 ⊕ String)) :=
 (J_X7_requireCode ee p0).bind fun z1 =>
 j_try z1 (fun _ =>
 (J_X7_requireSymbol f_tape f_dec ee oo tt rr sw hh p1).bind fun z3 =>
 j_try z3 (fun _ =>
 if p0 = (d_alphabet (e_d ee)) then
  some (Sum.inr "java/lang/IllegalArgumentException")
 else
  (J_X1_longerBy fu (e_d ee) p0 p1).bind fun z6 =>
  if z6 = (-1 : Int32) then
   some (Sum.inr "java/util/NoSuchElementException")
  else
   some (Sum.inl z6)) (fun E4 => some (Sum.inr E4))) (fun E2 => some (Sum.inr E2))
def J_X7_extensionCount (fu : Nat) (f_tape : Nat → Int32) (f_dec : Nat → Int32) (ee : ES) (oo : OS) (tt : TS) (rr : RS) (sw : SS) (hh : HS) (p0 : Int32) : Option ((Int32 ⊕ String)) :=
 (J_X7_requireCode ee p0).bind fun z1 =>
 j_try z1 (fun _ =>
 (J_X1_countLonger fu (e_d ee) p0).bind fun z3 =>
 some (Sum.inl z3)) (fun E2 => some (Sum.inr E2))
def J_X7_longestPhrase (fu : Nat) (ee : ES) : Option (Int32) :=
 (J_X1_firstLongest fu (e_d ee)).bind fun z1 =>
 some z1
def J_X7_usesOf (fu : Nat) (f_tape : Nat → Int32) (f_dec : Nat → Int32) (ee : ES) (oo : OS) (tt : TS) (rr : RS) (sw : SS) (hh : HS) (p0 : Int32) : Option ((Int32 ⊕ String)) :=
 (J_X7_requireCode ee p0).bind fun z1 =>
 j_try z1 (fun _ =>
 (J_X2_countWritten fu ee p0).bind fun z3 =>
 some (Sum.inl z3)) (fun E2 => some (Sum.inr E2))
def J_X7_codeOfTape_b4 (fu : Nat) (c_tapeLength : Int32) (f_tape : Nat → Int32) (f_dec : Nat → Int32) (ee : ES) (oo : OS) (tt : TS) (rr : RS) (sw : SS) (hh : HS) : Nat → Int32 → Int32 → Option (Int32)
| 0, _, _ => none
| n + 1, y1, y2 =>
 if c_tapeLength ≤ y2 then
  some y1
 else
  (J_X7_at 800 f_tape y2).bind fun z2 =>
  (J_X7_isSymbol ee (z2 - (97 : Int32))).bind fun z4 =>
  if z4 = 0 then
   some (-1 : Int32)
  else
   if y2 = 0 then
    if (z2 - (97 : Int32)) = (-1 : Int32) then
     some (-1 : Int32)
    else
     J_X7_codeOfTape_b4 fu c_tapeLength f_tape f_dec ee oo tt rr sw hh n (z2 - (97 : Int32)) (y2 + 1)
   else
    (J_X1_longerBy fu (e_d ee) y1 (z2 - (97 : Int32))).bind fun z8 =>
    if z8 = (-1 : Int32) then
     some (-1 : Int32)
    else
     J_X7_codeOfTape_b4 fu c_tapeLength f_tape f_dec ee oo tt rr sw hh n z8 (y2 + 1)
def J_X7_codeOfTape (fu : Nat) (c_tapeLength : Int32) (f_tape : Nat → Int32) (f_dec : Nat → Int32) (ee : ES) (oo : OS) (tt : TS) (rr : RS) (sw : SS) (hh : HS) : Option (Int32) :=
 J_X7_codeOfTape_b4 fu c_tapeLength f_tape f_dec ee oo tt rr sw hh fu (-1 : Int32) (0 : Int32)
def J_X7_findTape (fu : Nat) (c_tapeLength : Int32) (f_tape : Nat → Int32) (f_dec : Nat → Int32) (ee : ES) (oo : OS) (tt : TS) (rr : RS) (sw : SS) (hh : HS) : Option ((Int32 ⊕ String)) :=
 (J_X7_codeOfTape fu c_tapeLength f_tape f_dec ee oo tt rr sw hh).bind fun z1 =>
 if z1 = (-1 : Int32) then
  some (Sum.inr "java/util/NoSuchElementException")
 else
  some (Sum.inl z1)
def J_X7_hasPhrase (ee : ES) : Option (Int32) :=
 if (e_phrase ee) = (-1 : Int32) then
  some (0 : Int32)
 else
  some (1 : Int32)
def J_X7_currentPhrase (ee : ES) : Option ((Int32 ⊕ String)) :=
 if (e_phrase ee) = (-1 : Int32) then
  some (Sum.inr "java/util/NoSuchElementException")
 else
  some (Sum.inl (e_phrase ee))
def J_X7_codesIfEncoded (fu : Nat) (f_tape : Nat → Int32) (f_dec : Nat → Int32) (ee : ES) (oo : OS) (tt : TS) (rr : RS) (sw : SS) (hh : HS) (p0 : Int32) : Option ((Int32 ⊕ String)) :=
 (J_X7_requireSymbol f_tape f_dec ee oo tt rr sw hh p0).bind fun z1 =>
 j_try z1 (fun _ =>
 (J_X2_codesFor fu ee p0).bind fun z3 =>
 some (Sum.inl z3)) (fun E2 => some (Sum.inr E2))
def J_X7_clearsIfEncoded (fu : Nat) (f_tape : Nat → Int32) (f_dec : Nat → Int32) (ee : ES) (oo : OS) (tt : TS) (rr : RS) (sw : SS) (hh : HS) (p0 : Int32) : Option ((Int32 ⊕ String)) :=
 (J_X7_requireSymbol f_tape f_dec ee oo tt rr sw hh p0).bind fun z1 =>
 j_try z1 (fun _ =>
 (J_X2_codesFor fu ee p0).bind fun z3 =>
 if z3 = (2 : Int32) then
  some (Sum.inl (1 : Int32))
 else
  some (Sum.inl (0 : Int32))) (fun E2 => some (Sum.inr E2))
def J_X7_encodedCount (ee : ES) : Option (Int32) :=
 some (e_encodedLength ee)
def J_X7_encodedSymbol (ee : ES) (p0 : Int32) : Option ((Int32 ⊕ String)) :=
 (J_X7_requireIndex p0 (e_encodedLength ee)).bind fun z1 =>
 j_try z1 (fun _ =>
 (J_X7_at 400 (e_encoded ee) p0).bind fun z3 =>
 some (Sum.inl z3)) (fun E2 => some (Sum.inr E2))
def J_X7_writtenCount (ee : ES) : Option (Int32) :=
 some (e_writtenLength ee)
def J_X7_writtenCode (ee : ES) (p0 : Int32) : Option ((Int32 ⊕ String)) :=
 (J_X7_requireIndex p0 (e_writtenLength ee)).bind fun z1 =>
 j_try z1 (fun _ =>
 (J_X7_at 800 (e_written ee) p0).bind fun z3 =>
 some (Sum.inl z3)) (fun E2 => some (Sum.inr E2))
def J_X7_writtenWidth (ee : ES) (p0 : Int32) : Option ((Int32 ⊕ String)) :=
 (J_X7_requireIndex p0 (e_writtenLength ee)).bind fun z1 =>
 j_try z1 (fun _ =>
 (J_X7_at 800 (e_widths ee) p0).bind fun z3 =>
 some (Sum.inl z3)) (fun E2 => some (Sum.inr E2))
def J_X7_bitCount (ee : ES) : Option (Int32) :=
 some (e_bits ee)
def J_X7_bitAt (fu : Nat) (ee : ES) (p0 : Int32) : Option ((Int32 ⊕ String)) :=
 (J_X7_requireIndex p0 (e_bits ee)).bind fun z1 =>
 j_try z1 (fun _ =>
 (J_X2_bitsFrom fu ee p0 (1 : Int32)).bind fun z3 =>
 some (Sum.inl z3)) (fun E2 => some (Sum.inr E2))
def J_X7_byteCount (ee : ES) : Option (Int32) :=
 some (((e_bits ee) + (7 : Int32)) / (8 : Int32))
def J_X7_byteAt (fu : Nat) (f_tape : Nat → Int32) (f_dec : Nat → Int32) (ee : ES) (oo : OS) (tt : TS) (rr : RS) (sw : SS) (hh : HS) (p0 : Int32) : Option ((Int32 ⊕ String)) :=
 (J_X7_byteCount ee).bind fun z1 =>
 (J_X7_requireIndex p0 z1).bind fun z3 =>
 j_try z3 (fun _ =>
 (J_X2_bitsFrom fu ee ((8 : Int32) * p0) (8 : Int32)).bind fun z5 =>
 some (Sum.inl z5)) (fun E4 => some (Sum.inr E4))
def J_X7_clearCount (ee : ES) : Option (Int32) :=
 some (e_clears ee)
def J_X7_codesSinceClear (ee : ES) : Option (Int32) :=
 some (e_recentCodes ee)
def J_X7_symbolsSinceClear (ee : ES) : Option (Int32) :=
 some (e_recentSymbols ee)
def J_X7_bitsSinceClear (ee : ES) : Option (Int32) :=
 some (e_recentBits ee)
def J_X7_percentSinceClear (fu : Nat) (ee : ES) : Option (Int32) :=
 (J_X2_percent fu ee (e_recentBits ee) (e_recentSymbols ee)).bind fun z1 =>
 some z1
def J_X7_savedBits (fu : Nat) (ee : ES) : Option (Int32) :=
 (J_X2_covered ee).bind fun z1 =>
 (J_X1_widthOfSymbols fu (e_d ee)).bind fun z3 =>
 some ((z1 * z3) - (e_bits ee))
def J_X7_bitsPerSymbol (ee : ES) : Option (UInt64) :=
 (J_X2_covered ee).bind fun z1 =>
 if (0 : Int32) < z1 then
  if (FP.ddiv (FP.i2d (e_bits ee)) (FP.i2d z1)) &&& 0x7fffffffffffffff ≤ 0x7ff0000000000000 then
   some (FP.ddiv (FP.i2d (e_bits ee)) (FP.i2d z1))
  else none
 else
  some FP.dconst0
def J_X7_fillShare (ee : ES) : Option (UInt32) :=
 (J_X1_room (e_d ee)).bind fun z1 =>
 if (0 : Int32) < z1 then
  if (FP.fdiv (FP.i2f (d_count (e_d ee))) (FP.i2f z1)) &&& 0x7fffffff ≤ 0x7f800000 then
   some (FP.fdiv (FP.i2f (d_count (e_d ee))) (FP.i2f z1))
  else none
 else
  some FP.fconst0
def J_X7_decodedCount (c_decodedLength : Int32) : Option (Int32) :=
 some c_decodedLength
def J_X7_decodedSymbol (c_decodedLength : Int32) (f_dec : Nat → Int32) (p0 : Int32) : Option ((Int32 ⊕ String)) :=
 (J_X7_requireIndex p0 c_decodedLength).bind fun z1 =>
 j_try z1 (fun _ =>
 (J_X7_at 400 f_dec p0).bind fun z3 =>
 some (Sum.inl z3)) (fun E2 => some (Sum.inr E2))
def J_X7_longestDecodedRun_b6 (fu : Nat) (c_decodedLength : Int32) (f_dec : Nat → Int32) : Nat → Int32 → Int32 → Int32 → Option (Int32)
| 0, _, _, _ => none
| n + 1, y1, y2, y3 =>
 if c_decodedLength ≤ y3 then
  some y1
 else
  if y3 ≤ 0 then
   if (0 : Int32) = 0 then
    J_X7_longestDecodedRun_b6 fu c_decodedLength f_dec n (if y1 < (1 : Int32) then (1 : Int32) else y1) (1 : Int32) (y3 + 1)
   else
    J_X7_longestDecodedRun_b6 fu c_decodedLength f_dec n (if y1 < (y2 + (1 : Int32)) then (y2 + (1 : Int32)) else y1) (y2 + (1 : Int32)) (y3 + 1)
  else
   (J_X7_at 400 f_dec y3).bind fun z4 =>
   (J_X7_at 400 f_dec (y3 - (1 : Int32))).bind fun z6 =>
   if z4 = z6 then
    if (1 : Int32) = 0 then
     J_X7_longestDecodedRun_b6 fu c_decodedLength f_dec n (if y1 < (1 : Int32) then (1 : Int32) else y1) (1 : Int32) (y3 + 1)
    else
     J_X7_longestDecodedRun_b6 fu c_decodedLength f_dec n (if y1 < (y2 + (1 : Int32)) then (y2 + (1 : Int32)) else y1) (y2 + (1 : Int32)) (y3 + 1)
   else
    if (0 : Int32) = 0 then
     J_X7_longestDecodedRun_b6 fu c_decodedLength f_dec n (if y1 < (1 : Int32) then (1 : Int32) else y1) (1 : Int32) (y3 + 1)
    else
     J_X7_longestDecodedRun_b6 fu c_decodedLength f_dec n (if y1 < (y2 + (1 : Int32)) then (y2 + (1 : Int32)) else y1) (y2 + (1 : Int32)) (y3 + 1)
def J_X7_longestDecodedRun (fu : Nat) (c_decodedLength : Int32) (f_dec : Nat → Int32) : Option (Int32) :=
 J_X7_longestDecodedRun_b6 fu c_decodedLength f_dec fu (0 : Int32) (0 : Int32) (0 : Int32)
def J_X7_restoredCount (fu : Nat) (ee : ES) (oo : OS) : Option (Int32 × OS) :=
 (J_X0_begin fu oo (e_d ee)).bind fun z1 =>
 (J_X0_takeAll fu z1 800 (e_written ee) (e_writtenLength ee)).bind fun z3 =>
 some ((o_count z3.2), z3.2)
def J_X7_isRestored_b59 (fu : Nat) (ee : ES) : Nat → OS → Int32 → Option (Int32 × OS)
| 0, _, _ => none
| n + 1, oo, y1 =>
 if (o_count oo) ≤ y1 then
  some ((1 : Int32), oo)
 else
  (J_X7_at 400 (o_symbols oo) y1).bind fun z10 =>
  (J_X7_at 400 (e_encoded ee) y1).bind fun z12 =>
  if z10 = z12 then
   J_X7_isRestored_b59 fu ee n oo (y1 + 1)
  else
   some ((0 : Int32), oo)
def J_X7_isRestored (fu : Nat) (ee : ES) (oo : OS) : Option (Int32 × OS) :=
 (J_X0_begin fu oo (e_d ee)).bind fun z1 =>
 (J_X0_takeAll fu z1 800 (e_written ee) (e_writtenLength ee)).bind fun z3 =>
 if z3.1 = 0 then
  some ((0 : Int32), z3.2)
 else
  (J_X2_covered ee).bind fun z6 =>
  if (o_count z3.2) = z6 then
   J_X7_isRestored_b59 fu ee fu z3.2 (0 : Int32)
  else
   some ((0 : Int32), z3.2)
def J_X7_setupLength (fu : Nat) (ee : ES) (sw : SS) : Option (Int32 × SS) :=
 (J_X5_describe fu sw ee).bind fun z1 =>
 some ((s_length z1), z1)
def J_X7_setupByte (fu : Nat) (ee : ES) (sw : SS) (p0 : Int32) : Option ((Int32 ⊕ String) × SS) :=
 (J_X5_describe fu sw ee).bind fun z1 =>
 (J_X7_requireIndex p0 (s_length z1)).bind fun z3 =>
 j_try z3 (fun _ =>
 (J_X7_at 429 (s_text z1) p0).bind fun z5 =>
 some (Sum.inl z5, z1)) (fun E4 => some (Sum.inr E4, z1))
