/-! the class's encoder: flush, restart, begin, copies -/
def EF (e : ES) : Prop := ∃ p l le nw od z wid n po li ph en el wr wi wl bi cl rc rs rb, e = eN (dN p l le nw od z wid n) po li ph en el wr wi wl bi cl rc rs rb
theorem RQ.EF {e : ES} {g : Nat → Nat} {el : Nat} (h : RQ e g el) : EF e := by
  obtain ⟨p, l, le, nw, od, en, wr, wi, rfl, _⟩ := h
  exact ⟨_, _, _, _, _, _, _, _, _, _, _, _, _, _, _, _, _, _, _, _, _, rfl⟩
theorem k_end (fu : Nat) (hf : 300 ≤ fu) {e : ES} {g : Nat → Nat} (h : RE e g) (hw : WB g) :
    ∃ e', J_X2_endPhrase fu e = some (nI (if g 5 = 0 then 0 else 2), e') ∧ RE e' (if g 5 = 0 then g else gEA g) := by
  have hq : RQ e g (g 6) := h
  obtain ⟨p, l, le, nw, od, en, wr, wi, he, hr, hen, hww⟩ := id hq
  have h6 : g 6 ≤ 400 := ((WB_iff g).mp hw).2.2.2.1
  have h54 : g 5 ≤ g 4 := ((WB_iff g).mp hw).2.1
  have h44 : g 4 ≤ 256 := hw.1.1.1.2.2.2.2.2
  by_cases h5 : g 5 = 0
  · rw [if_pos h5, if_pos h5]
    refine ⟨e, ?_, h⟩
    have hph : phr g = 4294967295 := if_pos h5
    unfold J_X2_endPhrase
    rw [he, hph]
    simp (disch := first | omega | assumption) only [e_d, e_policy, e_limit, e_phrase, e_encoded, e_encodedLength, e_written, e_widths, e_writtenLength, e_bits, e_clears, e_recentCodes, e_recentSymbols, e_recentBits, mkE, eN, nq_neg, nq_fix, nq_sub1, nq_addN, nq_add, nq_mul, nq_sub, nq_ltN, nq_Nlt, nq_leN, nq_Nle, nq_lt, nq_le, nq_eq, nq_div, nq_pow, nq_tn, rd_W, wr_W, nS_eq, nS_ne, Option.bind_some, Option.bind_none, ↓reduceIte, Bool.false_eq_true, Nat.reduceEqDiff, Nat.reduceLT, Nat.reduceLeDiff, Nat.reduceAdd, Nat.reduceMul, Nat.reduceSub, Nat.reducePow, Nat.add_sub_cancel, Nat.zero_le, Nat.not_lt_zero, Nat.le_refl, Nat.lt_irrefl, l_0, l_1, l_2, l_3, l_4, l_5, l_6, l_7, l_8, l_9, l_10, l_13, l_14, l_16, l_20, l_24, l_26, l_30, l_31, l_32, l_48, l_57, l_59, l_63, l_96, l_97, l_100, l_122, l_200, l_255, l_256, l_270, l_400, l_429, l_526, l_780, l_800, l_926, l_1726, l_12082]
  · obtain ⟨r1, r2, r3, r4, r5⟩ := wr_room hw h5
    obtain ⟨e1, a1, q1⟩ := k_wr fu hf hq hw.1 (by omega) h6 h5 r2
    have hm1 := gWr_MB hw.1 (by omega) r2
    have e7 := (gWr_at g (g 5 - 1)).2.2.2.2.2.2.2.1
    obtain ⟨e2, a2, q2⟩ := k_cl fu hf q1 hm1 (by omega) h6
    have q3 := RQ_ph (v := 0) q2
    have hph : phr g = g 5 - 1 := if_neg h5
    have hph0 : phr (nS (gWC (gWr g (g 5 - 1))) 5 0) = 4294967295 := if_pos (nS_eq _ _ _)
    rw [hph0] at q3
    rw [if_neg h5, if_neg h5]
    refine ⟨mkE (e_d e2) (e_policy e2) (e_limit e2) (nI 4294967295) (e_encoded e2) (e_encodedLength e2) (e_written e2) (e_widths e2) (e_writtenLength e2) (e_bits e2) (e_clears e2) (e_recentCodes e2) (e_recentSymbols e2) (e_recentBits e2), ?_, ?_⟩
    rotate_left
    · unfold RE
      rw [(gEA_at h5).2.2.2.2.2.2.1]
      exact q3
    · unfold J_X2_endPhrase
      rw [if_neg (show ¬ (e_phrase e = -1) from by
        rw [he, hph]
        simp (disch := first | omega | assumption) only [e_d, e_policy, e_limit, e_phrase, e_encoded, e_encodedLength, e_written, e_widths, e_writtenLength, e_bits, e_clears, e_recentCodes, e_recentSymbols, e_recentBits, mkE, eN, nq_neg, nq_fix, nq_sub1, nq_addN, nq_add, nq_mul, nq_sub, nq_ltN, nq_Nlt, nq_leN, nq_Nle, nq_lt, nq_le, nq_eq, nq_div, nq_pow, nq_tn, rd_W, wr_W, nS_eq, nS_ne, Option.bind_some, Option.bind_none, ↓reduceIte, Bool.false_eq_true, Nat.reduceEqDiff, Nat.reduceLT, Nat.reduceLeDiff, Nat.reduceAdd, Nat.reduceMul, Nat.reduceSub, Nat.reducePow, Nat.add_sub_cancel, Nat.zero_le, Nat.not_lt_zero, Nat.le_refl, Nat.lt_irrefl, l_0, l_1, l_2, l_3, l_4, l_5, l_6, l_7, l_8, l_9, l_10, l_13, l_14, l_16, l_20, l_24, l_26, l_30, l_31, l_32, l_48, l_57, l_59, l_63, l_96, l_97, l_100, l_122, l_200, l_255, l_256, l_270, l_400, l_429, l_526, l_780, l_800, l_926, l_1726, l_12082]
        omega)]
      simp (disch := first | omega | assumption) only [nq_neg, nq_fix, nq_sub1, nq_addN, nq_add, nq_mul, nq_sub, nq_ltN, nq_Nlt, nq_leN, nq_Nle, nq_lt, nq_le, nq_eq, nq_div, nq_pow, nq_tn, rd_W, wr_W, nS_eq, nS_ne, Option.bind_some, Option.bind_none, ↓reduceIte, Bool.false_eq_true, Nat.reduceEqDiff, Nat.reduceLT, Nat.reduceLeDiff, Nat.reduceAdd, Nat.reduceMul, Nat.reduceSub, Nat.reducePow, Nat.add_sub_cancel, Nat.zero_le, Nat.not_lt_zero, Nat.le_refl, Nat.lt_irrefl, l_0, l_1, l_2, l_3, l_4, l_5, l_6, l_7, l_8, l_9, l_10, l_13, l_14, l_16, l_20, l_24, l_26, l_30, l_31, l_32, l_48, l_57, l_59, l_63, l_96, l_97, l_100, l_122, l_200, l_255, l_256, l_270, l_400, l_429, l_526, l_780, l_800, l_926, l_1726, l_12082, a1, a2]
theorem RQ_new {p l le nw od en wr wi : Nat → Nat} {g : Nat → Nat} (e4 : g 4 = g 0 + 1) (e5 : g 5 = 0) (e6 : g 6 = 0) (e7 : g 7 = 0) (e8 : g 8 = 0) (e9 : g 9 = 0) (hr : RD p l le nw od (g 0) (g 0 + 1) (gP g) (gL g)) :
    RE (eN (dN p l le nw od (g 0) (g 1) (g 0 + 1)) (g 2) (g 3) 4294967295 en 0 wr wi 0 0 0 0 0 0) g := by
  unfold RE
  refine ⟨p, l, le, nw, od, en, wr, wi, ?_, by rw [e4]; exact hr, fun i hi => by omega, fun i hi => by omega⟩
  unfold phr gss gbs
  rw [e4, e5, e6, e7, e8, e9]
  simp only [sm_self, if_true, Nat.sub_self]
theorem k_start (fu : Nat) (hf : 300 ≤ fu) (p l le nw od : Nat → Nat) (z wid n po li ph : Nat) (en : Nat → Nat) (el : Nat) (wr wi : Nat → Nat) (wl bi cl rc rs rb : Nat) (hz : z < 256) (P L : Nat → Nat) :
    ∃ p' l' le' nw', J_X2_startAnew fu (eN (dN p l le nw od z wid n) po li ph en el wr wi wl bi cl rc rs rb) = some (eN (dN p' l' le' nw' od z wid (z + 1)) po li 4294967295 en 0 wr wi 0 0 0 0 0 0) ∧ RD p' l' le' nw' od z (z + 1) P L := by
  obtain ⟨p', l', le', nw', a1, a2⟩ := k_keep fu hf p l le nw od z wid n hz P L
  refine ⟨p', l', le', nw', ?_, a2⟩
  unfold J_X2_startAnew J_X2_forgetRecent
  simp (disch := first | omega | assumption) only [e_d, e_policy, e_limit, e_phrase, e_encoded, e_encodedLength, e_written, e_widths, e_writtenLength, e_bits, e_clears, e_recentCodes, e_recentSymbols, e_recentBits, mkE, eN, nq_neg, nq_fix, nq_sub1, nq_addN, nq_add, nq_mul, nq_sub, nq_ltN, nq_Nlt, nq_leN, nq_Nle, nq_lt, nq_le, nq_eq, nq_div, nq_pow, nq_tn, rd_W, wr_W, nS_eq, nS_ne, Option.bind_some, Option.bind_none, ↓reduceIte, Bool.false_eq_true, Nat.reduceEqDiff, Nat.reduceLT, Nat.reduceLeDiff, Nat.reduceAdd, Nat.reduceMul, Nat.reduceSub, Nat.reducePow, Nat.add_sub_cancel, Nat.zero_le, Nat.not_lt_zero, Nat.le_refl, Nat.lt_irrefl, l_0, l_1, l_2, l_3, l_4, l_5, l_6, l_7, l_8, l_9, l_10, l_13, l_14, l_16, l_20, l_24, l_26, l_30, l_31, l_32, l_48, l_57, l_59, l_63, l_96, l_97, l_100, l_122, l_200, l_255, l_256, l_270, l_400, l_429, l_526, l_780, l_800, l_926, l_1726, l_12082] at a1 ⊢
  simp (disch := first | omega | assumption) only [nq_neg, nq_fix, nq_sub1, nq_addN, nq_add, nq_mul, nq_sub, nq_ltN, nq_Nlt, nq_leN, nq_Nle, nq_lt, nq_le, nq_eq, nq_div, nq_pow, nq_tn, rd_W, wr_W, nS_eq, nS_ne, Option.bind_some, Option.bind_none, ↓reduceIte, Bool.false_eq_true, Nat.reduceEqDiff, Nat.reduceLT, Nat.reduceLeDiff, Nat.reduceAdd, Nat.reduceMul, Nat.reduceSub, Nat.reducePow, Nat.add_sub_cancel, Nat.zero_le, Nat.not_lt_zero, Nat.le_refl, Nat.lt_irrefl, l_0, l_1, l_2, l_3, l_4, l_5, l_6, l_7, l_8, l_9, l_10, l_13, l_14, l_16, l_20, l_24, l_26, l_30, l_31, l_32, l_48, l_57, l_59, l_63, l_96, l_97, l_100, l_122, l_200, l_255, l_256, l_270, l_400, l_429, l_526, l_780, l_800, l_926, l_1726, l_12082, a1]
theorem k_restart (fu : Nat) (hf : 300 ≤ fu) {e : ES} {g : Nat → Nat} (h : RE e g) (hw : WB g) : ∃ e', J_X2_startAnew fu e = some e' ∧ RE e' (gSt g) := by
  obtain ⟨p, l, le, nw, od, en, wr, wi, he, hr, hen, hww⟩ := h
  obtain ⟨e0, e1, e2, e3, e4, e5, e6, e7, e8, e9, e13⟩ := gSt_at g
  have h0 : g 0 ≤ 26 := hw.1.1.1.2.1
  obtain ⟨p', l', le', nw', a1, a2⟩ := k_start fu hf p l le nw od (g 0) (g 1) (g 4) (g 2) (g 3) (phr g) en (g 6) wr wi (g 7) (sm (gwd_ g) 0 (g 7)) (g 8) (g 7 - g 9) (gss g) (gbs g) (by omega) (gP (gSt g)) (gL (gSt g))
  rw [← he] at a1
  refine ⟨_, a1, ?_⟩
  have := RQ_new (p := p') (l := l') (le := le') (nw := nw') (od := od) (en := en) (wr := wr) (wi := wi) (g := gSt g) (by omega) e5 e6 e7 e8 e9 (by rw [e0]; exact a2)
  rw [e0, e1, e2, e3] at this
  exact this
theorem k_begin (fu : Nat) (hf : 300 ≤ fu) {e : ES} (h : EF e) {g : Nat → Nat} (h0 : g 0 < 256) (e4 : g 4 = g 0 + 1) (e5 : g 5 = 0) (e6 : g 6 = 0) (e7 : g 7 = 0) (e8 : g 8 = 0) (e9 : g 9 = 0) :
    ∃ e', J_X2_begin fu e (nI (g 0)) (nI (g 1)) (nI (g 2)) (nI (g 3)) = some e' ∧ RE e' g := by
  obtain ⟨p, l, le, nw, od, z, wid, n, po, li, ph, en, el, wr, wi, wl, bi, cl, rc, rs, rb, rfl⟩ := h
  obtain ⟨p1, l1, le1, nw1, a1, a2⟩ := k_dbegin fu hf p l le nw od z wid n (g 0) (g 1) h0 (gP g) (gL g)
  obtain ⟨p', l', le', nw', b1, b2⟩ := k_start fu hf p1 l1 le1 nw1 od (g 0) (g 1) (g 0 + 1) (g 2) (g 3) ph en el wr wi wl bi cl rc rs rb h0 (gP g) (gL g)
  refine ⟨_, ?_, RQ_new (en := en) (wr := wr) (wi := wi) e4 e5 e6 e7 e8 e9 b2⟩
  unfold J_X2_begin
  simp only [e_d, e_policy, e_limit, e_phrase, e_encoded, e_encodedLength, e_written, e_widths, e_writtenLength, e_bits, e_clears, e_recentCodes, e_recentSymbols, e_recentBits, mkE, eN] at a1 b1 ⊢
  rw [a1]
  simp only [Option.bind_some]
  rw [b1]
  rfl
theorem RE_E7 {e : ES} {g' g : Nat → Nat} (h : RE e g) (hw : WB g) (x : E7 g' g) : RE e g' := by
  have h6 : g 6 ≤ 400 := ((WB_iff g).mp hw).2.2.2.1
  have h7 := hw.1.2.2.2.1
  unfold RE
  rw [x 6 (by omega)]
  exact RQ_of h hw.1 h6 (x 2 (by omega)) (x 3 (by omega)) (x 5 (by omega)) (x 7 (by omega)) (x 8 (by omega)) (x 9 (by omega)) x.DE (fun i hi => x _ (by omega)) (fun i hi => x _ (by omega))
theorem k_ecopy {e e0 : ES} {g : Nat → Nat} (h : RE e0 g) (hw : WB g) (hf : EF e) : ∃ e', J_X2_copyFrom e e0 = some e' ∧ RE e' g := by
  obtain ⟨p, l, le, nw, od, en, wr, wi, rfl, hr, hen, hww⟩ := h
  obtain ⟨p1, l1, le1, nw1, od1, z, wid, n, po, li, ph, en1, el, wr1, wi1, wl, bi, cl, rc, rs, rb, rfl⟩ := hf
  have h6 : g 6 ≤ 400 := ((WB_iff g).mp hw).2.2.2.1
  have h7 := hw.1.2.2.2.1
  obtain ⟨⟨hz2, h0, hw3, h1, hz, h4b⟩, wd, ud⟩ := id hw.1.1
  have a1 := k_dcopy p l le nw od p1 l1 le1 nw1 od1 (g 0) (g 1) (g 4) z wid n h4b
  have a2 := k_copy 400 en en1 (g 6) h6 (by omega)
  have a3 := k_copy 800 wr wr1 (g 7) h7 (by omega)
  have a4 := k_copy 800 wi wi1 (g 7) h7 (by omega)
  refine ⟨eN (dN (nCp p p1 (g 4)) (nCp l l1 (g 4)) (nCp le le1 (g 4)) (nCp nw nw1 (g 4)) (nCp od od1 (g 4)) (g 0) (g 1) (g 4)) (g 2) (g 3) (phr g) (nCp en en1 (g 6)) (g 6) (nCp wr wr1 (g 7)) (nCp wi wi1 (g 7)) (g 7) (sm (gwd_ g) 0 (g 7)) (g 8) (g 7 - g 9) (gss g) (gbs g), ?_, ?_⟩
  · unfold J_X2_copyFrom
    simp only [e_d, e_policy, e_limit, e_phrase, e_encoded, e_encodedLength, e_written, e_widths, e_writtenLength, e_bits, e_clears, e_recentCodes, e_recentSymbols, e_recentBits, mkE, eN] at a1 ⊢
    rw [a1]
    simp only [Option.bind_some, a2, a3, a4]
  · refine ⟨_, _, _, _, _, _, _, _, rfl, RD_congr hr (by omega) fun k hk => ⟨if_pos hk, if_pos hk, if_pos hk, if_pos hk, if_pos hk⟩, fun i hi => ?_, fun i hi => ?_⟩
    · rw [show nCp en en1 (g 6) i = en i from if_pos hi]; exact hen i hi
    · rw [show nCp wr wr1 (g 7) i = wr i from if_pos hi, show nCp wi wi1 (g 7) i = wi i from if_pos hi]; exact hww i hi
/-! the class's history against the model's rows -/
def rw_ (u : Nat → Nat) (i : Nat) : Nat → Nat := fun j => u (1726 * i + j)
def HR (hh : HS) (u : Nat → Nat) (m : Nat) (sl kp : Nat → Nat) : Prop := ∃ (st : Nat → ES) (sv nx : Nat), hh = mkH st (nI sv) (nI nx) (nI m) ∧ nx < 8 ∧ m ≤ 8 ∧ (∀ i, i < 10 → EF (st i)) ∧
  (sv < 4 ∧ kp 0 = sv % 2 ∧ kp 1 = sv / 2) ∧ (∀ i, i < m → RE (st (2 + (nx + 8 - m + i) % 8)) (rw_ u i) ∧ GOOD (rw_ u i)) ∧ (∀ i, i < 2 → kp i = 1 → RE (st i) (rw_ sl i) ∧ GOOD (rw_ sl i))
theorem chU_old (u a : Nat → Nat) (m i : Nat) (hm : m < 8) (h : i < m) : E7 (rw_ (chU u a m) i) (rw_ u i) := by
  intro j hj
  unfold rw_ chU
  rw [if_neg (by omega), nC_out _ _ _ _ _ _ (by omega)]
theorem chU_new (u a : Nat → Nat) (m : Nat) (hm : m < 8) : E7 (rw_ (chU u a m) m) a := by
  intro j hj
  unfold rw_ chU
  rw [if_neg (by omega), nC_in _ _ _ _ _ _ hj, Nat.zero_add]
theorem chU_old8 (u a : Nat → Nat) (i : Nat) (h : i < 7) : E7 (rw_ (chU u a 8) i) (rw_ u (i + 1)) := by
  intro j hj
  unfold rw_ chU
  rw [if_pos rfl, nC_out _ _ _ _ _ _ (by omega)]
  have := nC_in u u 0 1726 12082 (1726 * i + j) (by omega)
  rw [Nat.zero_add] at this
  rw [this]
  exact congrArg u (by omega)
theorem chU_new8 (u a : Nat → Nat) : E7 (rw_ (chU u a 8) 7) a := by
  intro j hj
  unfold rw_ chU
  rw [if_pos rfl, nC_in _ _ _ _ _ _ hj, Nat.zero_add]
theorem up_eq {α : Type} (f : Nat → α) (k : Nat) (v : α) : va_up f k v k = v := if_pos rfl
theorem up_ne {α : Type} (f : Nat → α) (k j : Nat) (v : α) (h : j ≠ k) : va_up f k v j = f j := if_neg h
theorem RE.E7 {e : ES} {g' g : Nat → Nat} (h : RE e g ∧ GOOD g) (x : E7 g' g) : RE e g' ∧ GOOD g' := ⟨RE_E7 h.1 h.2.1 x, GOOD_E7 h.2 x⟩
theorem k_copyTo {st : Nat → ES} {sv nx m p : Nat} {e : ES} {g : Nat → Nat} (h : RE e g) (hw : WB g) (hp : p < 10) (hf : EF (st p)) :
    ∃ e', J_X3_copyTo (mkH st (nI sv) (nI nx) (nI m)) (nI p) e = some (mkH (va_up st p e') (nI sv) (nI nx) (nI m)) ∧ RE e' g := by
  obtain ⟨e', a, b⟩ := k_ecopy h hw hf
  refine ⟨e', ?_, b⟩
  unfold J_X3_copyTo
  rw [if_neg, nq_tn p (by omega)]
  · show (J_X2_copyFrom (st p) e).bind _ = _
    rw [a]
    rfl
  · rw [nq_tn p (by omega), l_0, nq_lt p 0 (by omega) (by omega)]
    omega
theorem k_b33 (e : ES) (st : Nat → ES) (sv nx k1 : Int32) {m : Nat} (hm : m ≤ 8) : J_X3_remember_b33 e (mkH st sv nx (nI m)) k1 = some (mkH st sv k1 (nI (chK m))) := by
  unfold J_X3_remember_b33 chK
  by_cases h8 : m = 8
  · subst h8
    rfl
  · simp (disch := first | omega | assumption) only [h_states, h_savedSlots, h_undoNext, h_undoCount, mkH, nq_neg, nq_fix, nq_sub1, nq_addN, nq_add, nq_mul, nq_sub, nq_ltN, nq_Nlt, nq_leN, nq_Nle, nq_lt, nq_le, nq_eq, nq_div, nq_pow, nq_tn, rd_W, wr_W, nS_eq, nS_ne, Option.bind_some, Option.bind_none, ↓reduceIte, Bool.false_eq_true, Nat.reduceEqDiff, Nat.reduceLT, Nat.reduceLeDiff, Nat.reduceAdd, Nat.reduceMul, Nat.reduceSub, Nat.reducePow, Nat.add_sub_cancel, Nat.zero_le, Nat.not_lt_zero, Nat.le_refl, Nat.lt_irrefl, l_0, l_1, l_2, l_3, l_4, l_5, l_6, l_7, l_8, l_9, l_10, l_13, l_14, l_16, l_20, l_24, l_26, l_30, l_31, l_32, l_48, l_57, l_59, l_63, l_96, l_97, l_100, l_122, l_200, l_255, l_256, l_270, l_400, l_429, l_526, l_780, l_800, l_926, l_1726, l_12082, h8, show ¬ (8 < m + 1) by omega]
theorem k_remember {hh : HS} {u sl kp : Nat → Nat} {m : Nat} (h : HR hh u m sl kp) {e : ES} {g a : Nat → Nat} (he : RE e g) (hg : GOOD g) (ha : E7 a g) :
    ∃ hh', J_X3_remember hh e = some hh' ∧ HR hh' (chU u a m) (chK m) sl kp := by
  obtain ⟨st, sv, nx, rfl, hnx, hm, hef, hsv, hu, hs⟩ := h
  obtain ⟨e', a1, b1⟩ := k_copyTo (sv := sv) (nx := nx) (m := m) (p := 2 + nx) he hg.1 (by omega) (hef _ (by omega))
  have hfin : ∀ nx', nx' = (nx + 1) % 8 → HR (mkH (va_up st (2 + nx) e') (nI sv) (nI nx') (nI (chK m))) (chU u a m) (chK m) sl kp := by
    intro nx' hn
    refine ⟨_, sv, nx', rfl, by omega, ?_, fun i hi => ?_, hsv, fun i hi => ?_, fun i hi hk => ?_⟩
    · unfold chK; split <;> omega
    · by_cases h1 : i = 2 + nx
      · subst h1; rw [up_eq]; exact RQ.EF b1
      · rw [up_ne _ _ _ _ h1]; exact hef i hi
    · by_cases h8 : m = 8
      · subst h8
        rw [show chK 8 = 8 from rfl] at hi ⊢
        by_cases h7 : i = 7
        · subst h7
          rw [show 2 + (nx' + 8 - 8 + 7) % 8 = 2 + nx by omega, up_eq]
          exact RE.E7 (RE.E7 ⟨b1, hg⟩ ha) (chU_new8 u a)
        · rw [up_ne _ _ _ _ (by omega), show 2 + (nx' + 8 - 8 + i) % 8 = 2 + (nx + 8 - 8 + (i + 1)) % 8 by omega]
          exact RE.E7 (hu (i + 1) (by omega)) (chU_old8 u a i (by omega))
      · rw [show chK m = m + 1 from if_neg h8] at hi ⊢
        by_cases h7 : i = m
        · subst h7
          rw [show 2 + (nx' + 8 - (i + 1) + i) % 8 = 2 + nx by omega, up_eq]
          exact RE.E7 (RE.E7 ⟨b1, hg⟩ ha) (chU_new u a i (by omega))
        · rw [up_ne _ _ _ _ (by omega), show 2 + (nx' + 8 - (m + 1) + i) % 8 = 2 + (nx + 8 - m + i) % 8 by omega]
          exact RE.E7 (hu i (by omega)) (chU_old u a m i (by omega) (by omega))
    · rw [up_ne _ _ _ _ (by omega)]; exact hs i hi hk
  unfold J_X3_remember
  simp (disch := first | omega | assumption) only [h_states, h_savedSlots, h_undoNext, h_undoCount, mkH, nq_neg, nq_fix, nq_sub1, nq_addN, nq_add, nq_mul, nq_sub, nq_ltN, nq_Nlt, nq_leN, nq_Nle, nq_lt, nq_le, nq_eq, nq_div, nq_pow, nq_tn, rd_W, wr_W, nS_eq, nS_ne, Option.bind_some, Option.bind_none, ↓reduceIte, Bool.false_eq_true, Nat.reduceEqDiff, Nat.reduceLT, Nat.reduceLeDiff, Nat.reduceAdd, Nat.reduceMul, Nat.reduceSub, Nat.reducePow, Nat.add_sub_cancel, Nat.zero_le, Nat.not_lt_zero, Nat.le_refl, Nat.lt_irrefl, l_0, l_1, l_2, l_3, l_4, l_5, l_6, l_7, l_8, l_9, l_10, l_13, l_14, l_16, l_20, l_24, l_26, l_30, l_31, l_32, l_48, l_57, l_59, l_63, l_96, l_97, l_100, l_122, l_200, l_255, l_256, l_270, l_400, l_429, l_526, l_780, l_800, l_926, l_1726, l_12082] at a1 ⊢
  simp (disch := first | omega | assumption) only [a1, nq_neg, nq_fix, nq_sub1, nq_addN, nq_add, nq_mul, nq_sub, nq_ltN, nq_Nlt, nq_leN, nq_Nle, nq_lt, nq_le, nq_eq, nq_div, nq_pow, nq_tn, rd_W, wr_W, nS_eq, nS_ne, Option.bind_some, Option.bind_none, ↓reduceIte, Bool.false_eq_true, Nat.reduceEqDiff, Nat.reduceLT, Nat.reduceLeDiff, Nat.reduceAdd, Nat.reduceMul, Nat.reduceSub, Nat.reducePow, Nat.add_sub_cancel, Nat.zero_le, Nat.not_lt_zero, Nat.le_refl, Nat.lt_irrefl, l_0, l_1, l_2, l_3, l_4, l_5, l_6, l_7, l_8, l_9, l_10, l_13, l_14, l_16, l_20, l_24, l_26, l_30, l_31, l_32, l_48, l_57, l_59, l_63, l_96, l_97, l_100, l_122, l_200, l_255, l_256, l_270, l_400, l_429, l_526, l_780, l_800, l_926, l_1726, l_12082]
  by_cases c : 7 ≤ nx
  · rw [if_pos c]
    exact ⟨_, k_b33 e _ _ _ _ hm, hfin 0 (by omega)⟩
  · rw [if_neg c]
    exact ⟨_, k_b33 e _ _ _ _ hm, hfin (nx + 1) (by omega)⟩
theorem k_copyBack {st : Nat → ES} {sv k1 k2 : Int32} {p : Nat} {e : ES} {g : Nat → Nat} (h : RE (st p) g) (hw : WB g) (hp : p < 10) (hf : EF e) :
    ∃ e', J_X3_copyBack (mkH st sv k1 k2) (nI p) e = some e' ∧ RE e' g := by
  obtain ⟨e', a, b⟩ := k_ecopy h hw hf
  refine ⟨e', ?_, b⟩
  unfold J_X3_copyBack
  rw [if_neg, nq_tn p (by omega)]
  · exact a
  · rw [nq_tn p (by omega), l_0, nq_lt p 0 (by omega) (by omega)]
    omega
theorem k_stepBack {hh : HS} {u sl kp : Nat → Nat} {m : Nat} (h : HR hh u m sl kp) (hm0 : m ≠ 0) {e : ES} (hf : EF e) :
    ∃ hh' e', J_X3_stepBack hh e = some (hh', e') ∧ HR hh' u (m - 1) sl kp ∧ RE e' (rw_ u (m - 1)) ∧ GOOD (rw_ u (m - 1)) := by
  obtain ⟨st, sv, nx, rfl, hnx, hm, hef, hsv, hu, hs⟩ := h
  have hfin : ∀ nx', nx' < 8 → nx = (nx' + 1) % 8 → ∃ hh' e', J_X3_stepBack_b19 (mkH st (nI sv) (nI nx) (nI m)) e (nI nx') = some (hh', e') ∧ HR hh' u (m - 1) sl kp ∧ RE e' (rw_ u (m - 1)) ∧ GOOD (rw_ u (m - 1)) := by
    intro nx' h8 hn
    obtain ⟨r1, r2⟩ := hu (m - 1) (by omega)
    rw [show 2 + (nx + 8 - m + (m - 1)) % 8 = 2 + nx' by omega] at r1
    obtain ⟨e', a, b⟩ := k_copyBack (st := st) (sv := nI sv) (k1 := nI nx') (k2 := nI (m - 1)) (p := 2 + nx') r1 r2.1 (by omega) hf
    refine ⟨_, e', ?_, ⟨st, sv, nx', rfl, h8, by omega, hef, hsv, fun i hi => ?_, hs⟩, b, r2⟩
    · unfold J_X3_stepBack_b19
      simp (disch := first | omega | assumption) only [h_states, h_savedSlots, h_undoNext, h_undoCount, mkH, nq_neg, nq_fix, nq_sub1, nq_addN, nq_add, nq_mul, nq_sub, nq_ltN, nq_Nlt, nq_leN, nq_Nle, nq_lt, nq_le, nq_eq, nq_div, nq_pow, nq_tn, rd_W, wr_W, nS_eq, nS_ne, Option.bind_some, Option.bind_none, ↓reduceIte, Bool.false_eq_true, Nat.reduceEqDiff, Nat.reduceLT, Nat.reduceLeDiff, Nat.reduceAdd, Nat.reduceMul, Nat.reduceSub, Nat.reducePow, Nat.add_sub_cancel, Nat.zero_le, Nat.not_lt_zero, Nat.le_refl, Nat.lt_irrefl, l_0, l_1, l_2, l_3, l_4, l_5, l_6, l_7, l_8, l_9, l_10, l_13, l_14, l_16, l_20, l_24, l_26, l_30, l_31, l_32, l_48, l_57, l_59, l_63, l_96, l_97, l_100, l_122, l_200, l_255, l_256, l_270, l_400, l_429, l_526, l_780, l_800, l_926, l_1726, l_12082] at a ⊢
      simp (disch := first | omega | assumption) only [a, nq_neg, nq_fix, nq_sub1, nq_addN, nq_add, nq_mul, nq_sub, nq_ltN, nq_Nlt, nq_leN, nq_Nle, nq_lt, nq_le, nq_eq, nq_div, nq_pow, nq_tn, rd_W, wr_W, nS_eq, nS_ne, Option.bind_some, Option.bind_none, ↓reduceIte, Bool.false_eq_true, Nat.reduceEqDiff, Nat.reduceLT, Nat.reduceLeDiff, Nat.reduceAdd, Nat.reduceMul, Nat.reduceSub, Nat.reducePow, Nat.add_sub_cancel, Nat.zero_le, Nat.not_lt_zero, Nat.le_refl, Nat.lt_irrefl, l_0, l_1, l_2, l_3, l_4, l_5, l_6, l_7, l_8, l_9, l_10, l_13, l_14, l_16, l_20, l_24, l_26, l_30, l_31, l_32, l_48, l_57, l_59, l_63, l_96, l_97, l_100, l_122, l_200, l_255, l_256, l_270, l_400, l_429, l_526, l_780, l_800, l_926, l_1726, l_12082]
    · have := hu i (by omega)
      rw [show 2 + (nx + 8 - m + i) % 8 = 2 + (nx' + 8 - (m - 1) + i) % 8 by omega] at this
      exact this
  unfold J_X3_stepBack
  simp (disch := first | omega | assumption) only [h_states, h_savedSlots, h_undoNext, h_undoCount, mkH, nq_neg, nq_fix, nq_sub1, nq_addN, nq_add, nq_mul, nq_sub, nq_ltN, nq_Nlt, nq_leN, nq_Nle, nq_lt, nq_le, nq_eq, nq_div, nq_pow, nq_tn, rd_W, wr_W, nS_eq, nS_ne, Option.bind_some, Option.bind_none, ↓reduceIte, Bool.false_eq_true, Nat.reduceEqDiff, Nat.reduceLT, Nat.reduceLeDiff, Nat.reduceAdd, Nat.reduceMul, Nat.reduceSub, Nat.reducePow, Nat.add_sub_cancel, Nat.zero_le, Nat.not_lt_zero, Nat.le_refl, Nat.lt_irrefl, l_0, l_1, l_2, l_3, l_4, l_5, l_6, l_7, l_8, l_9, l_10, l_13, l_14, l_16, l_20, l_24, l_26, l_30, l_31, l_32, l_48, l_57, l_59, l_63, l_96, l_97, l_100, l_122, l_200, l_255, l_256, l_270, l_400, l_429, l_526, l_780, l_800, l_926, l_1726, l_12082]
  by_cases c : nx = 0
  · subst c
    simp (disch := first | omega | assumption) only [nq_neg, nq_fix, nq_sub1, nq_addN, nq_add, nq_mul, nq_sub, nq_ltN, nq_Nlt, nq_leN, nq_Nle, nq_lt, nq_le, nq_eq, nq_div, nq_pow, nq_tn, rd_W, wr_W, nS_eq, nS_ne, Option.bind_some, Option.bind_none, ↓reduceIte, Bool.false_eq_true, Nat.reduceEqDiff, Nat.reduceLT, Nat.reduceLeDiff, Nat.reduceAdd, Nat.reduceMul, Nat.reduceSub, Nat.reducePow, Nat.add_sub_cancel, Nat.zero_le, Nat.not_lt_zero, Nat.le_refl, Nat.lt_irrefl, l_0, l_1, l_2, l_3, l_4, l_5, l_6, l_7, l_8, l_9, l_10, l_13, l_14, l_16, l_20, l_24, l_26, l_30, l_31, l_32, l_48, l_57, l_59, l_63, l_96, l_97, l_100, l_122, l_200, l_255, l_256, l_270, l_400, l_429, l_526, l_780, l_800, l_926, l_1726, l_12082]
    exact hfin 7 (by omega) (by omega)
  · rw [if_neg (by omega)]
    exact hfin (nx - 1) (by omega) (by omega)
theorem k_forget {hh : HS} {u sl kp : Nat → Nat} {m : Nat} (h : HR hh u m sl kp) (kp' : Nat → Nat) (h0 : kp' 0 = 0) (h1 : kp' 1 = 0) : ∃ hh', J_X3_forget hh = some hh' ∧ HR hh' u 0 sl kp' := by
  obtain ⟨st, sv, nx, rfl, hnx, hm, hef, hsv, hu, hs⟩ := h
  refine ⟨_, rfl, st, 0, nx, rfl, hnx, by omega, hef, ⟨by omega, by omega, by omega⟩, fun i hi => by omega, fun i hi hk => ?_⟩
  have : i = 0 ∨ i = 1 := by omega
  rcases this with rfl | rfl <;> omega
/-! saved states: the model's slots, the class's -/
theorem cases32 (x : Int32) : x < 0 ∨ ∃ n, n < 2147483648 ∧ x = nI n := by
  by_cases h : x < 0
  · exact .inl h
  · refine .inr ⟨x.toInt.toNat, ?_, ?_⟩
    · have := Int32.toInt_lt x
      omega
    · have h0 : 0 ≤ x.toInt := by
        have := (not_congr Int32.lt_iff_toInt_lt).mp h
        have h2 : (0 : Int32).toInt = 0 := by decide
        omega
      apply Int32.toInt_inj.mp
      rw [nq_toInt _ (by have := Int32.toInt_lt x; omega)]
      omega
theorem nar1 : vp_nar .boolean (nI 1) = nI 1 := by decide
theorem nar0 : vp_nar .boolean (nI 0) = nI 0 := by decide
theorem and1 (b : Nat) (h : b ≤ 1) : nI b &&& 1 = nI b := by
  have : b = 0 ∨ b = 1 := by omega
  rcases this with rfl | rfl <;> decide
theorem m_isSlot (p : Nat) (hp : p < 2147483648) : J_X8_isSlot (nI p) = some (nI (if p ≤ 1 then 1 else 0)) := by
  unfold J_X8_isSlot
  rw [l_0, l_1, m_in p 0 1 hp (by omega) (by omega)]
  simp only [Option.bind_some, Nat.zero_le, true_and]
  have : (if p ≤ 1 then 1 else 0) ≤ 1 := by split <;> omega
  exact if_pos (and1 _ this)
theorem m_isSlotN (x : Int32) (h : x < 0) : J_X8_isSlot x = some (nI 0) := by
  unfold J_X8_isSlot
  rw [l_0, m_inNeg x _ h]
  rfl
theorem m_sv_b (fu : Nat) (g sl kp : Nat → Nat) (p : Nat) (hp : p < 2) : ∀ n k, k ≤ 1726 → 1726 < n + k →
    J_X8_save_b23 fu (nW g) n (nI 0) (nW (nC sl g (1726 * p) 0 k)) (nW kp) (nI p) (nI k) = some (nI 0, nW (nC sl g (1726 * p) 0 1726), nW (nS kp p 1)) := by
  intro n
  induction n with
  | zero => intro k h1 h2; omega
  | succ n ih =>
    intro k h1 h2
    unfold J_X8_save_b23
    by_cases h3 : k = 1726
    · subst h3
      unfold J_X8_save_b61
      simp (disch := first | omega | assumption) only [nq_neg, nq_fix, nq_sub1, nq_addN, nq_add, nq_mul, nq_sub, nq_ltN, nq_Nlt, nq_leN, nq_Nle, nq_lt, nq_le, nq_eq, nq_div, nq_pow, nq_tn, rd_W, wr_W, nS_eq, nS_ne, Option.bind_some, Option.bind_none, ↓reduceIte, Bool.false_eq_true, Nat.reduceEqDiff, Nat.reduceLT, Nat.reduceLeDiff, Nat.reduceAdd, Nat.reduceMul, Nat.reduceSub, Nat.reducePow, Nat.add_sub_cancel, Nat.zero_le, Nat.not_lt_zero, Nat.le_refl, Nat.lt_irrefl, l_0, l_1, l_2, l_3, l_4, l_5, l_6, l_7, l_8, l_9, l_10, l_13, l_14, l_16, l_20, l_24, l_26, l_30, l_31, l_32, l_48, l_57, l_59, l_63, l_96, l_97, l_100, l_122, l_200, l_255, l_256, l_270, l_400, l_429, l_526, l_780, l_800, l_926, l_1726, l_12082, nar1]
    · have h4 := ih (k + 1) (by omega) (by omega)
      rw [← nC_succ, Nat.zero_add] at h4
      simp (disch := first | omega | assumption) only [nq_neg, nq_fix, nq_sub1, nq_addN, nq_add, nq_mul, nq_sub, nq_ltN, nq_Nlt, nq_leN, nq_Nle, nq_lt, nq_le, nq_eq, nq_div, nq_pow, nq_tn, rd_W, wr_W, nS_eq, nS_ne, Option.bind_some, Option.bind_none, ↓reduceIte, Bool.false_eq_true, Nat.reduceEqDiff, Nat.reduceLT, Nat.reduceLeDiff, Nat.reduceAdd, Nat.reduceMul, Nat.reduceSub, Nat.reducePow, Nat.add_sub_cancel, Nat.zero_le, Nat.not_lt_zero, Nat.le_refl, Nat.lt_irrefl, l_0, l_1, l_2, l_3, l_4, l_5, l_6, l_7, l_8, l_9, l_10, l_13, l_14, l_16, l_20, l_24, l_26, l_30, l_31, l_32, l_48, l_57, l_59, l_63, l_96, l_97, l_100, l_122, l_200, l_255, l_256, l_270, l_400, l_429, l_526, l_780, l_800, l_926, l_1726, l_12082, show ¬ (1726 ≤ k) by omega]
      exact h4
theorem m_save (fu : Nat) (hf : 20000 ≤ fu) (t : Int32) (g sl kp : Nat → Nat) (p : Nat) (hp : p < 2) : J_X8_save fu t (nW g) (nW sl) (nW kp) (nI p) = some (nI 0, nW (nC sl g (1726 * p) 0 1726), nW (nS kp p 1)) := by
  have := m_sv_b fu g sl kp p hp fu 0 (by omega) (by omega)
  rw [nC_zero] at this
  unfold J_X8_save J_X8_save_b20
  rw [m_isSlot p (by omega), if_pos (by omega)]
  simp (disch := first | omega | assumption) only [nq_neg, nq_fix, nq_sub1, nq_addN, nq_add, nq_mul, nq_sub, nq_ltN, nq_Nlt, nq_leN, nq_Nle, nq_lt, nq_le, nq_eq, nq_div, nq_pow, nq_tn, rd_W, wr_W, nS_eq, nS_ne, Option.bind_some, Option.bind_none, ↓reduceIte, Bool.false_eq_true, Nat.reduceEqDiff, Nat.reduceLT, Nat.reduceLeDiff, Nat.reduceAdd, Nat.reduceMul, Nat.reduceSub, Nat.reducePow, Nat.add_sub_cancel, Nat.zero_le, Nat.not_lt_zero, Nat.le_refl, Nat.lt_irrefl, l_0, l_1, l_2, l_3, l_4, l_5, l_6, l_7, l_8, l_9, l_10, l_13, l_14, l_16, l_20, l_24, l_26, l_30, l_31, l_32, l_48, l_57, l_59, l_63, l_96, l_97, l_100, l_122, l_200, l_255, l_256, l_270, l_400, l_429, l_526, l_780, l_800, l_926, l_1726, l_12082, m_told]
  exact this
theorem m_saveX (fu : Nat) (hf : 20000 ≤ fu) (t : Int32) (g sl kp : Nat → Nat) (x : Int32) (hx : J_X8_isSlot x = some (nI 0)) : J_X8_save fu t (nW g) (nW sl) (nW kp) x = some (nI 1, nW sl, nW kp) := by
  unfold J_X8_save J_X8_save_b20
  rw [hx]
  simp (disch := first | omega | assumption) only [nq_neg, nq_fix, nq_sub1, nq_addN, nq_add, nq_mul, nq_sub, nq_ltN, nq_Nlt, nq_leN, nq_Nle, nq_lt, nq_le, nq_eq, nq_div, nq_pow, nq_tn, rd_W, wr_W, nS_eq, nS_ne, Option.bind_some, Option.bind_none, ↓reduceIte, Bool.false_eq_true, Nat.reduceEqDiff, Nat.reduceLT, Nat.reduceLeDiff, Nat.reduceAdd, Nat.reduceMul, Nat.reduceSub, Nat.reducePow, Nat.add_sub_cancel, Nat.zero_le, Nat.not_lt_zero, Nat.le_refl, Nat.lt_irrefl, l_0, l_1, l_2, l_3, l_4, l_5, l_6, l_7, l_8, l_9, l_10, l_13, l_14, l_16, l_20, l_24, l_26, l_30, l_31, l_32, l_48, l_57, l_59, l_63, l_96, l_97, l_100, l_122, l_200, l_255, l_256, l_270, l_400, l_429, l_526, l_780, l_800, l_926, l_1726, l_12082, m_throwing]
  have hf2 : ∃ m, fu = m + 1 := ⟨fu - 1, by omega⟩
  obtain ⟨m, hm⟩ := hf2
  have : ∀ n, 1 ≤ n → J_X8_save_b23 fu (nW g) n (nI 1) (nW sl) (nW kp) x (nI 0) = some (nI 1, nW sl, nW kp) := by
    intro n hn
    cases n with
    | zero => omega
    | succ n =>
      unfold J_X8_save_b23 J_X8_save_b61
      simp (disch := first | omega | assumption) only [nq_neg, nq_fix, nq_sub1, nq_addN, nq_add, nq_mul, nq_sub, nq_ltN, nq_Nlt, nq_leN, nq_Nle, nq_lt, nq_le, nq_eq, nq_div, nq_pow, nq_tn, rd_W, wr_W, nS_eq, nS_ne, Option.bind_some, Option.bind_none, ↓reduceIte, Bool.false_eq_true, Nat.reduceEqDiff, Nat.reduceLT, Nat.reduceLeDiff, Nat.reduceAdd, Nat.reduceMul, Nat.reduceSub, Nat.reducePow, Nat.add_sub_cancel, Nat.zero_le, Nat.not_lt_zero, Nat.le_refl, Nat.lt_irrefl, l_0, l_1, l_2, l_3, l_4, l_5, l_6, l_7, l_8, l_9, l_10, l_13, l_14, l_16, l_20, l_24, l_26, l_30, l_31, l_32, l_48, l_57, l_59, l_63, l_96, l_97, l_100, l_122, l_200, l_255, l_256, l_270, l_400, l_429, l_526, l_780, l_800, l_926, l_1726, l_12082]
  exact this fu (by omega)
theorem m_re_b (fu : Nat) (hf : 20000 ≤ fu) (g a u sl kp : Nat → Nat) (t : Int32) (m p : Nat) (hm : m ≤ 8) (hp : p < 2) : ∀ n k, k ≤ 1726 → 1726 < n + k →
    J_X8_restore_b34 fu (nW sl) (nW kp) n t (nW (nC g sl 0 (1726 * p) k)) (nW a) (nW u) (nI m) (nI p) (nI k) = some (nI (sl (1726 * p + 6)), nI 0, nW (nC g sl 0 (1726 * p) 1726), nW a, nW (chU u a m), nI (chK m)) := by
  intro n
  induction n with
  | zero => intro k h1 h2; omega
  | succ n ih =>
    intro k h1 h2
    unfold J_X8_restore_b34
    by_cases h3 : k = 1726
    · subst h3
      have h6 : nC g sl 0 (1726 * p) 1726 6 = sl (1726 * p + 6) := by
        have := nC_in g sl 0 (1726 * p) 1726 6 (by omega)
        rw [Nat.zero_add] at this
        exact this
      simp (disch := first | omega | assumption) only [nq_neg, nq_fix, nq_sub1, nq_addN, nq_add, nq_mul, nq_sub, nq_ltN, nq_Nlt, nq_leN, nq_Nle, nq_lt, nq_le, nq_eq, nq_div, nq_pow, nq_tn, rd_W, wr_W, nS_eq, nS_ne, Option.bind_some, Option.bind_none, ↓reduceIte, Bool.false_eq_true, Nat.reduceEqDiff, Nat.reduceLT, Nat.reduceLeDiff, Nat.reduceAdd, Nat.reduceMul, Nat.reduceSub, Nat.reducePow, Nat.add_sub_cancel, Nat.zero_le, Nat.not_lt_zero, Nat.le_refl, Nat.lt_irrefl, l_0, l_1, l_2, l_3, l_4, l_5, l_6, l_7, l_8, l_9, l_10, l_13, l_14, l_16, l_20, l_24, l_26, l_30, l_31, l_32, l_48, l_57, l_59, l_63, l_96, l_97, l_100, l_122, l_200, l_255, l_256, l_270, l_400, l_429, l_526, l_780, l_800, l_926, l_1726, l_12082, h6, m_changed fu hf a u t _ m hm]
    · have h4 := ih (k + 1) (by omega) (by omega)
      rw [← nC_succ, Nat.zero_add] at h4
      simp (disch := first | omega | assumption) only [nq_neg, nq_fix, nq_sub1, nq_addN, nq_add, nq_mul, nq_sub, nq_ltN, nq_Nlt, nq_leN, nq_Nle, nq_lt, nq_le, nq_eq, nq_div, nq_pow, nq_tn, rd_W, wr_W, nS_eq, nS_ne, Option.bind_some, Option.bind_none, ↓reduceIte, Bool.false_eq_true, Nat.reduceEqDiff, Nat.reduceLT, Nat.reduceLeDiff, Nat.reduceAdd, Nat.reduceMul, Nat.reduceSub, Nat.reducePow, Nat.add_sub_cancel, Nat.zero_le, Nat.not_lt_zero, Nat.le_refl, Nat.lt_irrefl, l_0, l_1, l_2, l_3, l_4, l_5, l_6, l_7, l_8, l_9, l_10, l_13, l_14, l_16, l_20, l_24, l_26, l_30, l_31, l_32, l_48, l_57, l_59, l_63, l_96, l_97, l_100, l_122, l_200, l_255, l_256, l_270, l_400, l_429, l_526, l_780, l_800, l_926, l_1726, l_12082, show ¬ (1726 ≤ k) by omega]
      exact h4
theorem m_restore (fu : Nat) (hf : 20000 ≤ fu) (t : Int32) (g a u sl kp : Nat → Nat) (m p : Nat) (hm : m ≤ 8) (hp : p < 2) (hk : kp p = 1) :
    J_X8_restore fu t (nW g) (nW a) (nW u) (nW sl) (nW kp) (nI m) (nI p) = some (nI (sl (1726 * p + 6)), nI 0, nW (nC g sl 0 (1726 * p) 1726), nW (nC a g 0 0 1726), nW (chU u (nC a g 0 0 1726) m), nI (chK m)) := by
  have := m_re_b fu hf g (nC a g 0 0 1726) u sl kp t m p hm hp fu 0 (by omega) (by omega)
  rw [nC_zero] at this
  unfold J_X8_restore
  rw [m_isSlot p (by omega), if_pos (by omega)]
  simp (disch := first | omega | assumption) only [nq_neg, nq_fix, nq_sub1, nq_addN, nq_add, nq_mul, nq_sub, nq_ltN, nq_Nlt, nq_leN, nq_Nle, nq_lt, nq_le, nq_eq, nq_div, nq_pow, nq_tn, rd_W, wr_W, nS_eq, nS_ne, Option.bind_some, Option.bind_none, ↓reduceIte, Bool.false_eq_true, Nat.reduceEqDiff, Nat.reduceLT, Nat.reduceLeDiff, Nat.reduceAdd, Nat.reduceMul, Nat.reduceSub, Nat.reducePow, Nat.add_sub_cancel, Nat.zero_le, Nat.not_lt_zero, Nat.le_refl, Nat.lt_irrefl, l_0, l_1, l_2, l_3, l_4, l_5, l_6, l_7, l_8, l_9, l_10, l_13, l_14, l_16, l_20, l_24, l_26, l_30, l_31, l_32, l_48, l_57, l_59, l_63, l_96, l_97, l_100, l_122, l_200, l_255, l_256, l_270, l_400, l_429, l_526, l_780, l_800, l_926, l_1726, l_12082, hk, m_keepsAside fu hf]
  exact this
theorem m_restoreE (fu : Nat) (t : Int32) (g a u sl kp : Nat → Nat) (m p : Nat) (hp : p < 2) (hk : kp p = 0) :
    J_X8_restore fu t (nW g) (nW a) (nW u) (nW sl) (nW kp) (nI m) (nI p) = some (nI 0, nI 2, nW g, nW a, nW u, nI m) := by
  unfold J_X8_restore
  rw [m_isSlot p (by omega), if_pos (by omega)]
  simp (disch := first | omega | assumption) only [nq_neg, nq_fix, nq_sub1, nq_addN, nq_add, nq_mul, nq_sub, nq_ltN, nq_Nlt, nq_leN, nq_Nle, nq_lt, nq_le, nq_eq, nq_div, nq_pow, nq_tn, rd_W, wr_W, nS_eq, nS_ne, Option.bind_some, Option.bind_none, ↓reduceIte, Bool.false_eq_true, Nat.reduceEqDiff, Nat.reduceLT, Nat.reduceLeDiff, Nat.reduceAdd, Nat.reduceMul, Nat.reduceSub, Nat.reducePow, Nat.add_sub_cancel, Nat.zero_le, Nat.not_lt_zero, Nat.le_refl, Nat.lt_irrefl, l_0, l_1, l_2, l_3, l_4, l_5, l_6, l_7, l_8, l_9, l_10, l_13, l_14, l_16, l_20, l_24, l_26, l_30, l_31, l_32, l_48, l_57, l_59, l_63, l_96, l_97, l_100, l_122, l_200, l_255, l_256, l_270, l_400, l_429, l_526, l_780, l_800, l_926, l_1726, l_12082, hk, m_throwing]
theorem m_restoreX (fu : Nat) (t : Int32) (g a u sl kp : Nat → Nat) (m : Nat) (x : Int32) (hx : J_X8_isSlot x = some (nI 0)) :
    J_X8_restore fu t (nW g) (nW a) (nW u) (nW sl) (nW kp) (nI m) x = some (nI 0, nI 1, nW g, nW a, nW u, nI m) := by
  unfold J_X8_restore
  rw [hx]
  simp (disch := first | omega | assumption) only [nq_neg, nq_fix, nq_sub1, nq_addN, nq_add, nq_mul, nq_sub, nq_ltN, nq_Nlt, nq_leN, nq_Nle, nq_lt, nq_le, nq_eq, nq_div, nq_pow, nq_tn, rd_W, wr_W, nS_eq, nS_ne, Option.bind_some, Option.bind_none, ↓reduceIte, Bool.false_eq_true, Nat.reduceEqDiff, Nat.reduceLT, Nat.reduceLeDiff, Nat.reduceAdd, Nat.reduceMul, Nat.reduceSub, Nat.reducePow, Nat.add_sub_cancel, Nat.zero_le, Nat.not_lt_zero, Nat.le_refl, Nat.lt_irrefl, l_0, l_1, l_2, l_3, l_4, l_5, l_6, l_7, l_8, l_9, l_10, l_13, l_14, l_16, l_20, l_24, l_26, l_30, l_31, l_32, l_48, l_57, l_59, l_63, l_96, l_97, l_100, l_122, l_200, l_255, l_256, l_270, l_400, l_429, l_526, l_780, l_800, l_926, l_1726, l_12082, m_throwing]
def svO (sv p : Nat) : Nat := if p = 0 then sv / 2 * 2 + 1 else sv % 2 + 2
theorem sv_or : ∀ sv, sv < 4 → ∀ p, p < 2 → nI sv ||| ((1 : Int32) <<< (nI p &&& 31)) = nI (svO sv p) := by decide
theorem sv_at : ∀ sv, sv < 4 → ∀ p, p < 2 → ((((nI sv).toUInt32 >>> ((nI p).toUInt32 &&& Int32.toUInt32 31)).toInt32) &&& (1 : Int32)) = nI (if p = 0 then sv % 2 else sv / 2) := by decide
theorem k_isSaved {hh : HS} {u sl kp : Nat → Nat} {m : Nat} (h : HR hh u m sl kp) (p : Nat) (hp : p < 2) : J_X3_isSaved hh (nI p) = some (nI (kp p)) ∧ kp p ≤ 1 := by
  obtain ⟨st, sv, nx, rfl, hnx, hm, hef, ⟨hsv, h0, h1⟩, hu, hs⟩ := h
  have e : (if p = 0 then sv % 2 else sv / 2) = kp p := by
    have : p = 0 ∨ p = 1 := by omega
    rcases this with rfl | rfl
    · exact h0.symm
    · exact h1.symm
  have hb : kp p ≤ 1 := by
    rw [← e]
    split <;> omega
  refine ⟨?_, hb⟩
  unfold J_X3_isSaved
  simp only [h_savedSlots, mkH]
  rw [sv_at sv hsv p hp, e]
  simp (disch := first | omega | assumption) only [nq_neg, nq_fix, nq_sub1, nq_addN, nq_add, nq_mul, nq_sub, nq_ltN, nq_Nlt, nq_leN, nq_Nle, nq_lt, nq_le, nq_eq, nq_div, nq_pow, nq_tn, rd_W, wr_W, nS_eq, nS_ne, Option.bind_some, Option.bind_none, ↓reduceIte, Bool.false_eq_true, Nat.reduceEqDiff, Nat.reduceLT, Nat.reduceLeDiff, Nat.reduceAdd, Nat.reduceMul, Nat.reduceSub, Nat.reducePow, Nat.add_sub_cancel, Nat.zero_le, Nat.not_lt_zero, Nat.le_refl, Nat.lt_irrefl, l_0, l_1, l_2, l_3, l_4, l_5, l_6, l_7, l_8, l_9, l_10, l_13, l_14, l_16, l_20, l_24, l_26, l_30, l_31, l_32, l_48, l_57, l_59, l_63, l_96, l_97, l_100, l_122, l_200, l_255, l_256, l_270, l_400, l_429, l_526, l_780, l_800, l_926, l_1726, l_12082]
  have : kp p = 0 ∨ kp p = 1 := by omega
  rcases this with h | h <;> rw [h] <;> rfl
theorem k_saveIn {hh : HS} {u sl kp : Nat → Nat} {m : Nat} (h : HR hh u m sl kp) {e : ES} {g : Nat → Nat} (he : RE e g) (hg : GOOD g) (p : Nat) (hp : p < 2) :
    ∃ hh', J_X3_saveIn hh (nI p) e = some hh' ∧ HR hh' u m (nC sl g (1726 * p) 0 1726) (nS kp p 1) := by
  obtain ⟨st, sv, nx, rfl, hnx, hm, hef, ⟨hsv, h0, h1⟩, hu, hs⟩ := h
  obtain ⟨e', a1, b1⟩ := k_copyTo (sv := sv) (nx := nx) (m := m) (p := p) he hg.1 (by omega) (hef _ (by omega))
  refine ⟨mkH (va_up st p e') (nI (svO sv p)) (nI nx) (nI m), ?_, _, svO sv p, nx, rfl, hnx, hm, fun i hi => ?_, ⟨?_, ?_, ?_⟩, fun i hi => ?_, fun i hi hk => ?_⟩
  · unfold J_X3_saveIn
    rw [a1]
    simp only [Option.bind_some, h_states, h_savedSlots, h_undoNext, h_undoCount, mkH]
    rw [sv_or sv hsv p hp]
  · by_cases h2 : i = p
    · subst h2; rw [up_eq]; exact RQ.EF b1
    · rw [up_ne _ _ _ _ h2]; exact hef i hi
  · unfold svO; split <;> omega
  · unfold svO
    by_cases h2 : p = 0
    · subst h2; rw [nS_eq, if_pos rfl]; omega
    · rw [nS_ne _ _ _ _ (by omega), if_neg h2]; omega
  · unfold svO
    by_cases h2 : p = 0
    · subst h2; rw [nS_ne _ _ _ _ (by omega), if_pos rfl]; omega
    · rw [show p = 1 by omega, nS_eq, if_neg (by omega)]; omega
  · rw [up_ne _ _ _ _ (by omega)]; exact hu i hi
  · by_cases h2 : i = p
    · subst h2
      rw [up_eq]
      refine RE.E7 ⟨b1, hg⟩ fun j hj => ?_
      unfold rw_
      rw [nC_in _ _ _ _ _ _ hj, Nat.zero_add]
    · rw [up_ne _ _ _ _ h2]
      rw [nS_ne _ _ _ _ h2] at hk
      refine RE.E7 (hs i hi hk) fun j hj => ?_
      unfold rw_
      rw [nC_out _ _ _ _ _ _ (by omega)]
theorem k_fetch {hh : HS} {u sl kp : Nat → Nat} {m : Nat} (h : HR hh u m sl kp) {e : ES} (hf : EF e) (p : Nat) (hp : p < 2) (hk : kp p = 1) :
    ∃ e', J_X3_fetchSaved hh (nI p) e = some e' ∧ RE e' (rw_ sl p) ∧ GOOD (rw_ sl p) := by
  obtain ⟨st, sv, nx, rfl, hnx, hm, hef, hsv, hu, hs⟩ := h
  obtain ⟨r1, r2⟩ := hs p hp hk
  obtain ⟨e', a, b⟩ := k_copyBack (st := st) (sv := nI sv) (k1 := nI nx) (k2 := nI m) (p := p) r1 r2.1 (by omega) hf
  refine ⟨e', ?_, b, r2⟩
  unfold J_X3_fetchSaved
  rw [a]
  rfl
/-! the decoding machine: what holds of it -/
def DW (z M : Nat) : DT → Prop := fun (n, P, L, pv, out) => z + 1 ≤ n ∧ n ≤ M ∧ WD z n P L ∧ UD z n P L ∧ (pv = 4294967295 ∨ (pv < n ∧ pv ≠ z)) ∧ out.length ≤ 400
theorem dLn_ok {z n : Nat} {P L : Nat → Nat} (wd : WD z n P L) (ud : UD z n P L) (hz : z + 1 ≤ n) (hn : n < 256) {pv s : Nat} (h1 : pv < n) (h2 : pv ≠ z) (hs : s < z) :
    (dLn z n P L pv s).1 ≤ n + 1 ∧ n ≤ (dLn z n P L pv s).1 ∧ WD z (dLn z n P L pv s).1 (dLn z n P L pv s).2.1 (dLn z n P L pv s).2.2.1 ∧ UD z (dLn z n P L pv s).1 (dLn z n P L pv s).2.1 (dLn z n P L pv s).2.2.1 ∧
    z < (dLn z n P L pv s).2.2.2 ∧ (dLn z n P L pv s).2.2.2 < (dLn z n P L pv s).1 ∧ (∀ c, c < n → ph z (dLn z n P L pv s).2.1 (dLn z n P L pv s).2.2.1 c = ph z P L c) ∧
    ph z (dLn z n P L pv s).2.1 (dLn z n P L pv s).2.2.1 (dLn z n P L pv s).2.2.2 = ph z P L pv ++ [s] := by
  unfold dLn
  by_cases h : kidS z P L pv s n = 4294967295
  · rw [if_pos h]
    exact ⟨Nat.le_refl _, Nat.le_succ n, WD_add wd h1 h2 hs, UD_add ud h (by omega), by show z < n; omega, Nat.lt_succ_self n, ph_add wd pv s, ph_new wd (by omega) h1 h2 hs⟩
  · rw [if_neg h]
    rcases kidS_cases z P L pv s n with ⟨k1, _⟩ | ⟨k1, k2, k3, k4⟩
    · exact absurd k1 h
    · refine ⟨Nat.le_succ n, Nat.le_refl n, wd, ud, k1, k2, fun c _ => rfl, ?_⟩
      show ph z P L (kidS z P L pv s n) = _
      rw [ph_gt wd k1 k2, k3, k4]
theorem ph_head_lt {z n : Nat} {P L : Nat → Nat} (wd : WD z n P L) {c : Nat} (h1 : c < n) (h2 : c ≠ z) : (ph z P L c).getD 0 0 < z := by
  have hp := ph_pos wd h1 h2
  have hs := ph_sym wd c h1
  cases he : ph z P L c with
  | nil => rw [he] at hp; simp only [List.length_nil] at hp; omega
  | cons a A =>
    rw [he] at hs
    exact hs a (by simp)
/-- a step, case by case -/
theorem dTk_cases {z M : Nat} (hz : z < 256) (hM : M ≤ 256) {n : Nat} {P L : Nat → Nat} {pv : Nat} {out : List Nat} (h : DW z M (n, P, L, pv, out)) (c : Nat) :
    (c = z ∧ dTk z M (n, P, L, pv, out) c = some (z + 1, P, L, 4294967295, out)) ∨
    (c ≠ z ∧ ¬ (c < n ∨ (c = n ∧ pv ≠ 4294967295 ∧ n < M)) ∧ dTk z M (n, P, L, pv, out) c = none) ∨
    (c ≠ z ∧ c < n ∧ 400 < out.length + (ph z P L c).length ∧ dTk z M (n, P, L, pv, out) c = none) ∨
    (c ≠ z ∧ c = n ∧ pv ≠ 4294967295 ∧ n < M ∧ 400 < out.length + ((ph z P L pv).length + 1) ∧ dTk z M (n, P, L, pv, out) c = none) ∨
    (c ≠ z ∧ c < n ∧ out.length + (ph z P L c).length ≤ 400 ∧ ¬ (pv ≠ 4294967295 ∧ n < M) ∧ dTk z M (n, P, L, pv, out) c = some (n, P, L, c, out ++ ph z P L c)) ∨
    (c ≠ z ∧ c < n ∧ out.length + (ph z P L c).length ≤ 400 ∧ pv ≠ 4294967295 ∧ n < M ∧ dTk z M (n, P, L, pv, out) c = some ((dLn z n P L pv ((ph z P L c).getD 0 0)).1, (dLn z n P L pv ((ph z P L c).getD 0 0)).2.1, (dLn z n P L pv ((ph z P L c).getD 0 0)).2.2.1, c, out ++ ph z P L c)) ∨
    (c ≠ z ∧ c = n ∧ pv ≠ 4294967295 ∧ n < M ∧ out.length + ((ph z P L pv).length + 1) ≤ 400 ∧ dTk z M (n, P, L, pv, out) c = some ((dLn z n P L pv ((ph z P L pv).getD 0 0)).1, (dLn z n P L pv ((ph z P L pv).getD 0 0)).2.1, (dLn z n P L pv ((ph z P L pv).getD 0 0)).2.2.1, (dLn z n P L pv ((ph z P L pv).getD 0 0)).2.2.2, out ++ (ph z P L pv ++ [(ph z P L pv).getD 0 0]))) := by
  obtain ⟨h1, h2, wd, ud, hpv, hout⟩ := h
  unfold dTk
  simp only
  by_cases c0 : c = z
  · exact .inl ⟨c0, if_pos c0⟩
  rw [if_neg c0]
  by_cases c1 : c < n
  · rw [if_pos (Or.inl c1), if_pos c1, if_pos c1, if_pos c1]
    by_cases c2 : out.length + (ph z P L c).length ≤ 400
    · rw [if_pos c2]
      by_cases c3 : pv ≠ 4294967295 ∧ n < M
      · rw [if_pos c3]
        have hd := dLn_ok wd ud h1 (show n < 256 by omega) (pv := pv) (s := (ph z P L c).getD 0 0) (by omega) (by omega) (ph_head_lt wd c1 c0)
        rw [hd.2.2.2.2.2.2.1 c c1]
        exact .inr (.inr (.inr (.inr (.inr (.inl ⟨c0, c1, c2, c3.1, c3.2, rfl⟩)))))
      · rw [if_neg c3]
        exact .inr (.inr (.inr (.inr (.inl ⟨c0, c1, c2, c3, rfl⟩))))
    · rw [if_neg c2]
      exact .inr (.inr (.inl ⟨c0, c1, by omega, rfl⟩))
  · by_cases c3 : c = n ∧ pv ≠ 4294967295 ∧ n < M
    · have hd := dLn_ok wd ud h1 (show n < 256 by omega) (pv := pv) (s := (ph z P L pv).getD 0 0) (by omega) (by omega) (ph_head_lt wd (by omega) (by omega))
      rw [if_pos (Or.inr c3), if_neg c1, if_neg c1, if_neg c1, if_pos c3.2, hd.2.2.2.2.2.2.2]
      by_cases c2 : out.length + ((ph z P L pv).length + 1) ≤ 400
      · rw [if_pos c2]
        exact .inr (.inr (.inr (.inr (.inr (.inr ⟨c0, c3.1, c3.2.1, c3.2.2, c2, rfl⟩)))))
      · rw [if_neg c2]
        exact .inr (.inr (.inr (.inl ⟨c0, c3.1, c3.2.1, c3.2.2, by omega, rfl⟩)))
    · have : ¬ (c < n ∨ (c = n ∧ pv ≠ 4294967295 ∧ n < M)) := fun hx => hx.elim c1 c3
      rw [if_neg this]
      exact .inr (.inl ⟨c0, this, rfl⟩)
theorem DW_step {z M : Nat} (hz : z < 256) (hM : M ≤ 256) (hzM : z + 1 ≤ M) {d d' : DT} (h : DW z M d) (c : Nat) (e : dTk z M d c = some d') : DW z M d' := by
  obtain ⟨n, P, L, pv, out⟩ := d
  obtain ⟨h1, h2, wd, ud, hpv, hout⟩ := id h
  rcases dTk_cases hz hM h c with ⟨_, x⟩ | ⟨_, _, x⟩ | ⟨_, _, _, x⟩ | ⟨_, _, _, _, _, x⟩ | ⟨c0, c1, c2, c3, x⟩ | ⟨c0, c1, c2, c3, c4, x⟩ | ⟨c0, c1, c3, c4, c2, x⟩
  · rw [x] at e
    obtain rfl := Option.some.inj e
    exact ⟨Nat.le_refl _, hzM, fun k h1 h2 => by omega, fun j k h1 h2 h3 => by omega, Or.inl rfl, hout⟩
  · rw [x] at e; cases e
  · rw [x] at e; cases e
  · rw [x] at e; cases e
  · rw [x] at e
    obtain rfl := Option.some.inj e
    exact ⟨h1, h2, wd, ud, Or.inr ⟨c1, c0⟩, by rw [List.length_append]; exact c2⟩
  · rw [x] at e
    obtain rfl := Option.some.inj e
    have hd := dLn_ok wd ud h1 (show n < 256 by omega) (pv := pv) (s := (ph z P L c).getD 0 0) (by omega) (by omega) (ph_head_lt wd c1 c0)
    exact ⟨by have := hd.2.1; omega, by have := hd.1; omega, hd.2.2.1, hd.2.2.2.1, Or.inr ⟨by have := hd.2.1; omega, c0⟩, by rw [List.length_append]; exact c2⟩
  · rw [x] at e
    obtain rfl := Option.some.inj e
    have hd := dLn_ok wd ud h1 (show n < 256 by omega) (pv := pv) (s := (ph z P L pv).getD 0 0) (by omega) (by omega) (ph_head_lt wd (by omega) (by omega))
    refine ⟨by have := hd.2.1; omega, by have := hd.1; omega, hd.2.2.1, hd.2.2.2.1, Or.inr ⟨hd.2.2.2.2.2.1, by have := hd.2.2.2.2.1; omega⟩, ?_⟩
    rw [List.length_append, List.length_append]
    exact c2
/-! the class's decoder is the machine -/
def RO (o : OS) (z wid : Nat) : DT → Prop := fun (n, P, L, pv, out) => ∃ p l le nw od sy : Nat → Nat,
  o = mkO (dN p l le nw od z wid n) (nI pv) (nW sy) (nI out.length) ∧ RD p l le nw od z n P L ∧ ∀ i, i < out.length → sy i = out.getD i 0
theorem spl_lo (r : Nat → Nat) (a : Nat) (A : List Nat) (i : Nat) (h : i < a) : spl r a A i = r i := if_neg (by omega)
theorem spl_hi (r : Nat → Nat) (a : Nat) (A : List Nat) (i : Nat) (h1 : a ≤ i) (h2 : i < a + A.length) : spl r a A i = A.getD (i - a) 0 := if_pos ⟨h1, h2⟩
theorem gd_app (A B : List Nat) (i : Nat) : (A ++ B).getD i 0 = if i < A.length then A.getD i 0 else B.getD (i - A.length) 0 := by
  rw [List.getD_eq_getElem?_getD, List.getD_eq_getElem?_getD, List.getD_eq_getElem?_getD]
  by_cases h : i < A.length
  · rw [if_pos h, List.getElem?_append_left h]
  · rw [if_neg h, List.getElem?_append_right (by omega)]
theorem k_d54 (fu : Nat) (hf : 300 ≤ fu) {o : OS} {z wid n : Nat} {P L : Nat → Nat} {pv : Nat} {out : List Nat} (h : RO o z wid (n, P, L, pv, out)) (wd : WD z n P L) (hn : n ≤ 256) {c : Nat} (hc : c < n) (hz : c ≠ z) (hl : out.length + (ph z P L c).length ≤ 400) :
    ∃ o', J_X0_takePhrase_b54 fu o (nI (ph z P L c).length) (nI c) = some (nI 1, o') ∧ RO o' z wid (n, P, L, c, out ++ ph z P L c) := by
  obtain ⟨p, l, le, nw, od, sy, rfl, hr, hs⟩ := h
  have a := k_spell fu hf p l le nw od z wid n P L hr wd hn 400 out.length c sy (by omega) hc hz hl
  refine ⟨mkO (dN p l le nw od z wid n) (nI c) (nW (spl sy out.length (ph z P L c))) (nI (out ++ ph z P L c).length), ?_, p, l, le, nw, od, _, rfl, hr, fun i hi => ?_⟩
  · unfold J_X0_takePhrase_b54
    simp only [o_d, o_previous, o_symbols, o_count, mkO] at a ⊢
    rw [a, List.length_append]
    simp (disch := first | omega | assumption) only [nq_neg, nq_fix, nq_sub1, nq_addN, nq_add, nq_mul, nq_sub, nq_ltN, nq_Nlt, nq_leN, nq_Nle, nq_lt, nq_le, nq_eq, nq_div, nq_pow, nq_tn, rd_W, wr_W, nS_eq, nS_ne, Option.bind_some, Option.bind_none, ↓reduceIte, Bool.false_eq_true, Nat.reduceEqDiff, Nat.reduceLT, Nat.reduceLeDiff, Nat.reduceAdd, Nat.reduceMul, Nat.reduceSub, Nat.reducePow, Nat.add_sub_cancel, Nat.zero_le, Nat.not_lt_zero, Nat.le_refl, Nat.lt_irrefl, l_0, l_1, l_2, l_3, l_4, l_5, l_6, l_7, l_8, l_9, l_10, l_13, l_14, l_16, l_20, l_24, l_26, l_30, l_31, l_32, l_48, l_57, l_59, l_63, l_96, l_97, l_100, l_122, l_200, l_255, l_256, l_270, l_400, l_429, l_526, l_780, l_800, l_926, l_1726, l_12082]
  · rw [List.length_append] at hi
    rw [gd_app]
    by_cases h1 : i < out.length
    · rw [if_pos h1, spl_lo _ _ _ _ h1]; exact hs i h1
    · rw [if_neg h1, spl_hi _ _ _ _ (by omega) (by omega)]
theorem k_learn (fu : Nat) (hf : 300 ≤ fu) {o : OS} {z wid n : Nat} {P L : Nat → Nat} {pv : Nat} {out : List Nat} (h : RO o z wid (n, P, L, pv, out)) (hw : wid ≤ 8) (hz : z < 256) (d : DW z (2 ^ wid) (n, P, L, pv, out)) {s : Nat} (hs : s < z) :
    (¬ (pv ≠ 4294967295 ∧ n < 2 ^ wid) → ∃ w, J_X0_learn fu o (nI s) = some (w, o)) ∧
    (pv ≠ 4294967295 ∧ n < 2 ^ wid → ∃ o', J_X0_learn fu o (nI s) = some (nI (dLn z n P L pv s).2.2.2, o') ∧ RO o' z wid ((dLn z n P L pv s).1, (dLn z n P L pv s).2.1, (dLn z n P L pv s).2.2.1, pv, out)) := by
  obtain ⟨p, l, le, nw, od, sy, rfl, hr, hsy⟩ := h
  obtain ⟨h1, h2, wd, ud, hpv, hout⟩ := d
  have hM := pow_le8 wid hw
  have a2 := k_noRoom p l le nw od z wid n hw (by omega)
  by_cases c0 : pv = 4294967295
  · subst c0
    refine ⟨fun _ => ⟨nI 4294967295, ?_⟩, fun hx => absurd rfl hx.1⟩
    unfold J_X0_learn
    simp (disch := first | omega | assumption) only [o_d, o_previous, o_symbols, o_count, mkO, nq_neg, nq_fix, nq_sub1, nq_addN, nq_add, nq_mul, nq_sub, nq_ltN, nq_Nlt, nq_leN, nq_Nle, nq_lt, nq_le, nq_eq, nq_div, nq_pow, nq_tn, rd_W, wr_W, nS_eq, nS_ne, Option.bind_some, Option.bind_none, ↓reduceIte, Bool.false_eq_true, Nat.reduceEqDiff, Nat.reduceLT, Nat.reduceLeDiff, Nat.reduceAdd, Nat.reduceMul, Nat.reduceSub, Nat.reducePow, Nat.add_sub_cancel, Nat.zero_le, Nat.not_lt_zero, Nat.le_refl, Nat.lt_irrefl, l_0, l_1, l_2, l_3, l_4, l_5, l_6, l_7, l_8, l_9, l_10, l_13, l_14, l_16, l_20, l_24, l_26, l_30, l_31, l_32, l_48, l_57, l_59, l_63, l_96, l_97, l_100, l_122, l_200, l_255, l_256, l_270, l_400, l_429, l_526, l_780, l_800, l_926, l_1726, l_12082]
  · have a1 := k_longerBy fu hf p l le nw od z wid n P L hr wd ud hz (by omega) pv s (by omega) hs
    unfold J_X0_learn
    simp (disch := first | omega | assumption) only [o_d, o_previous, o_symbols, o_count, mkO, nq_neg, nq_fix, nq_sub1, nq_addN, nq_add, nq_mul, nq_sub, nq_ltN, nq_Nlt, nq_leN, nq_Nle, nq_lt, nq_le, nq_eq, nq_div, nq_pow, nq_tn, rd_W, wr_W, nS_eq, nS_ne, Option.bind_some, Option.bind_none, ↓reduceIte, Bool.false_eq_true, Nat.reduceEqDiff, Nat.reduceLT, Nat.reduceLeDiff, Nat.reduceAdd, Nat.reduceMul, Nat.reduceSub, Nat.reducePow, Nat.add_sub_cancel, Nat.zero_le, Nat.not_lt_zero, Nat.le_refl, Nat.lt_irrefl, l_0, l_1, l_2, l_3, l_4, l_5, l_6, l_7, l_8, l_9, l_10, l_13, l_14, l_16, l_20, l_24, l_26, l_30, l_31, l_32, l_48, l_57, l_59, l_63, l_96, l_97, l_100, l_122, l_200, l_255, l_256, l_270, l_400, l_429, l_526, l_780, l_800, l_926, l_1726, l_12082, show ¬ (pv = 4294967295) by omega]
    simp (disch := first | omega | assumption) only [a1, nq_neg, nq_fix, nq_sub1, nq_addN, nq_add, nq_mul, nq_sub, nq_ltN, nq_Nlt, nq_leN, nq_Nle, nq_lt, nq_le, nq_eq, nq_div, nq_pow, nq_tn, rd_W, wr_W, nS_eq, nS_ne, Option.bind_some, Option.bind_none, ↓reduceIte, Bool.false_eq_true, Nat.reduceEqDiff, Nat.reduceLT, Nat.reduceLeDiff, Nat.reduceAdd, Nat.reduceMul, Nat.reduceSub, Nat.reducePow, Nat.add_sub_cancel, Nat.zero_le, Nat.not_lt_zero, Nat.le_refl, Nat.lt_irrefl, l_0, l_1, l_2, l_3, l_4, l_5, l_6, l_7, l_8, l_9, l_10, l_13, l_14, l_16, l_20, l_24, l_26, l_30, l_31, l_32, l_48, l_57, l_59, l_63, l_96, l_97, l_100, l_122, l_200, l_255, l_256, l_270, l_400, l_429, l_526, l_780, l_800, l_926, l_1726, l_12082]
    by_cases c1 : kidS z P L pv s n = 4294967295
    · rw [c1]
      simp (disch := first | omega | assumption) only [nq_neg, nq_fix, nq_sub1, nq_addN, nq_add, nq_mul, nq_sub, nq_ltN, nq_Nlt, nq_leN, nq_Nle, nq_lt, nq_le, nq_eq, nq_div, nq_pow, nq_tn, rd_W, wr_W, nS_eq, nS_ne, Option.bind_some, Option.bind_none, ↓reduceIte, Bool.false_eq_true, Nat.reduceEqDiff, Nat.reduceLT, Nat.reduceLeDiff, Nat.reduceAdd, Nat.reduceMul, Nat.reduceSub, Nat.reducePow, Nat.add_sub_cancel, Nat.zero_le, Nat.not_lt_zero, Nat.le_refl, Nat.lt_irrefl, l_0, l_1, l_2, l_3, l_4, l_5, l_6, l_7, l_8, l_9, l_10, l_13, l_14, l_16, l_20, l_24, l_26, l_30, l_31, l_32, l_48, l_57, l_59, l_63, l_96, l_97, l_100, l_122, l_200, l_255, l_256, l_270, l_400, l_429, l_526, l_780, l_800, l_926, l_1726, l_12082, a2]
      by_cases c2 : n < 2 ^ wid
      · obtain ⟨p', l', le', nw', od', a3, r3⟩ := k_addLonger p l le nw od z wid n P L hr wd (by omega) (by omega) pv s (by omega) (by omega) hs
        refine ⟨fun hx => absurd ⟨c0, c2⟩ hx, fun _ => ?_⟩
        have hq : dLn z n P L pv s = (n + 1, nS P n pv, nS L n s, n) := if_pos c1
        rw [hq, if_pos c2]
        simp (disch := first | omega | assumption) only [nq_neg, nq_fix, nq_sub1, nq_addN, nq_add, nq_mul, nq_sub, nq_ltN, nq_Nlt, nq_leN, nq_Nle, nq_lt, nq_le, nq_eq, nq_div, nq_pow, nq_tn, rd_W, wr_W, nS_eq, nS_ne, Option.bind_some, Option.bind_none, ↓reduceIte, Bool.false_eq_true, Nat.reduceEqDiff, Nat.reduceLT, Nat.reduceLeDiff, Nat.reduceAdd, Nat.reduceMul, Nat.reduceSub, Nat.reducePow, Nat.add_sub_cancel, Nat.zero_le, Nat.not_lt_zero, Nat.le_refl, Nat.lt_irrefl, l_0, l_1, l_2, l_3, l_4, l_5, l_6, l_7, l_8, l_9, l_10, l_13, l_14, l_16, l_20, l_24, l_26, l_30, l_31, l_32, l_48, l_57, l_59, l_63, l_96, l_97, l_100, l_122, l_200, l_255, l_256, l_270, l_400, l_429, l_526, l_780, l_800, l_926, l_1726, l_12082, a3]
        exact ⟨_, rfl, p', l', le', nw', od', sy, rfl, r3, hsy⟩
      · refine ⟨fun _ => ?_, fun hx => absurd hx.2 c2⟩
        rw [if_neg c2]
        simp (disch := first | omega | assumption) only [nq_neg, nq_fix, nq_sub1, nq_addN, nq_add, nq_mul, nq_sub, nq_ltN, nq_Nlt, nq_leN, nq_Nle, nq_lt, nq_le, nq_eq, nq_div, nq_pow, nq_tn, rd_W, wr_W, nS_eq, nS_ne, Option.bind_some, Option.bind_none, ↓reduceIte, Bool.false_eq_true, Nat.reduceEqDiff, Nat.reduceLT, Nat.reduceLeDiff, Nat.reduceAdd, Nat.reduceMul, Nat.reduceSub, Nat.reducePow, Nat.add_sub_cancel, Nat.zero_le, Nat.not_lt_zero, Nat.le_refl, Nat.lt_irrefl, l_0, l_1, l_2, l_3, l_4, l_5, l_6, l_7, l_8, l_9, l_10, l_13, l_14, l_16, l_20, l_24, l_26, l_30, l_31, l_32, l_48, l_57, l_59, l_63, l_96, l_97, l_100, l_122, l_200, l_255, l_256, l_270, l_400, l_429, l_526, l_780, l_800, l_926, l_1726, l_12082]
        exact ⟨_, rfl⟩
    · have hk : kidS z P L pv s n < n := by
        rcases kidS_cases z P L pv s n with ⟨k1, _⟩ | ⟨k1, k2, k3, k4⟩
        · exact absurd k1 c1
        · exact k2
      simp (disch := first | omega | assumption) only [nq_neg, nq_fix, nq_sub1, nq_addN, nq_add, nq_mul, nq_sub, nq_ltN, nq_Nlt, nq_leN, nq_Nle, nq_lt, nq_le, nq_eq, nq_div, nq_pow, nq_tn, rd_W, wr_W, nS_eq, nS_ne, Option.bind_some, Option.bind_none, ↓reduceIte, Bool.false_eq_true, Nat.reduceEqDiff, Nat.reduceLT, Nat.reduceLeDiff, Nat.reduceAdd, Nat.reduceMul, Nat.reduceSub, Nat.reducePow, Nat.add_sub_cancel, Nat.zero_le, Nat.not_lt_zero, Nat.le_refl, Nat.lt_irrefl, l_0, l_1, l_2, l_3, l_4, l_5, l_6, l_7, l_8, l_9, l_10, l_13, l_14, l_16, l_20, l_24, l_26, l_30, l_31, l_32, l_48, l_57, l_59, l_63, l_96, l_97, l_100, l_122, l_200, l_255, l_256, l_270, l_400, l_429, l_526, l_780, l_800, l_926, l_1726, l_12082, c1]
      refine ⟨fun _ => ⟨_, rfl⟩, fun hx => ?_⟩
      have hq : dLn z n P L pv s = (n, P, L, kidS z P L pv s n) := if_neg c1
      rw [hq]
      exact ⟨_, rfl, p, l, le, nw, od, sy, rfl, hr, hsy⟩
def okI (x : Option DT) : Nat := if x.isSome then 1 else 0
theorem k_takeCode (fu : Nat) (hf : 300 ≤ fu) {o : OS} {z wid : Nat} {d : DT} (h : RO o z wid d) (hw : wid ≤ 8) (hz : z < 256) (hzM : z + 1 ≤ 2 ^ wid) (hd : DW z (2 ^ wid) d) (c : Nat) (hc : c < 2147483648) :
    ∃ o', J_X0_takeCode fu o (nI c) = some (nI (okI (dTk z (2 ^ wid) d c)), o') ∧ RO o' z wid ((dTk z (2 ^ wid) d c).getD d) := by
  obtain ⟨n, P, L, pv, out⟩ := d
  obtain ⟨h1, h2, wd, ud, hpv, hout⟩ := id hd
  have hM := pow_le8 wid hw
  have h' := h
  obtain ⟨p, l, le, nw, od, sy, he, hr, hsy⟩ := h'
  have ho_d : o_d o = dN p l le nw od z wid n := by rw [he]
  have ho_p : o_previous o = nI pv := by rw [he]
  have ho_c : o_count o = nI out.length := by rw [he]
  have ho_s : o_symbols o = nW sy := by rw [he]
  have hda : d_alphabet (o_d o) = nI z := by rw [he]; rfl
  have hdc : d_count (o_d o) = nI n := by rw [he]; rfl
  have hhc : J_X1_hasCode (o_d o) (nI c) = some (nI (if c < n then 1 else 0)) := by
    rw [ho_d]
    unfold J_X1_hasCode
    simp (disch := first | omega | assumption) only [d_prefix, d_lastSymbol, d_lengths, d_newest, d_older, d_alphabet, d_widest, d_count, mkD, dN, nq_neg, nq_fix, nq_sub1, nq_addN, nq_add, nq_mul, nq_sub, nq_ltN, nq_Nlt, nq_leN, nq_Nle, nq_lt, nq_le, nq_eq, nq_div, nq_pow, nq_tn, rd_W, wr_W, nS_eq, nS_ne, Option.bind_some, Option.bind_none, ↓reduceIte, Bool.false_eq_true, Nat.reduceEqDiff, Nat.reduceLT, Nat.reduceLeDiff, Nat.reduceAdd, Nat.reduceMul, Nat.reduceSub, Nat.reducePow, Nat.add_sub_cancel, Nat.zero_le, Nat.not_lt_zero, Nat.le_refl, Nat.lt_irrefl, l_0, l_1, l_2, l_3, l_4, l_5, l_6, l_7, l_8, l_9, l_10, l_13, l_14, l_16, l_20, l_24, l_26, l_30, l_31, l_32, l_48, l_57, l_59, l_63, l_96, l_97, l_100, l_122, l_200, l_255, l_256, l_270, l_400, l_429, l_526, l_780, l_800, l_926, l_1726, l_12082]
    by_cases c1 : c < n
    · rw [if_neg (by omega), if_pos c1]
    · rw [if_pos (by omega), if_neg c1]
  have a2 := k_noRoom p l le nw od z wid n hw (by omega)
  rw [← ho_d] at a2
  have lenOf : ∀ c, c < n → J_X1_lengthOf (o_d o) (nI c) = some (nI (ph z P L c).length) := fun c hc => by rw [ho_d]; exact k_lengthOf p l le nw od z wid n P L hr (by omega) c hc
  have symOf : ∀ c, c < n → c ≠ z → J_X1_symbolOf fu (o_d o) (nI c) (nI 0) = some (nI ((ph z P L c).getD 0 0)) := fun c hc hcz => by
    rw [ho_d]
    exact k_symbolOf fu hf p l le nw od z wid n P L hr wd (by omega) c 0 hc hcz (ph_pos wd hc hcz)
  unfold J_X0_takeCode
  rcases dTk_cases hz hM hd c with ⟨c0, x⟩ | ⟨c0, c1, x⟩ | ⟨c0, c1, c2, x⟩ | ⟨c0, c1, c3, c4, c2, x⟩ | ⟨c0, c1, c2, c3, x⟩ | ⟨c0, c1, c2, c3, c4, x⟩ | ⟨c0, c1, c3, c4, c2, x⟩
  · rw [x, c0, if_pos hda.symm]
    obtain ⟨p', l', le', nw', b1, b2⟩ := k_keep fu hf p l le nw od z wid n hz P L
    rw [ho_d, b1, ho_s, ho_c]
    exact ⟨_, rfl, p', l', le', nw', od, sy, rfl, b2, hsy⟩
  · have e0 : (nI c = nI z) = False := by simp (disch := first | omega | assumption) only [nq_neg, nq_fix, nq_sub1, nq_addN, nq_add, nq_mul, nq_sub, nq_ltN, nq_Nlt, nq_leN, nq_Nle, nq_lt, nq_le, nq_eq, nq_div, nq_pow, nq_tn, rd_W, wr_W, nS_eq, nS_ne, Option.bind_some, Option.bind_none, ↓reduceIte, Bool.false_eq_true, Nat.reduceEqDiff, Nat.reduceLT, Nat.reduceLeDiff, Nat.reduceAdd, Nat.reduceMul, Nat.reduceSub, Nat.reducePow, Nat.add_sub_cancel, Nat.zero_le, Nat.not_lt_zero, Nat.le_refl, Nat.lt_irrefl, l_0, l_1, l_2, l_3, l_4, l_5, l_6, l_7, l_8, l_9, l_10, l_13, l_14, l_16, l_20, l_24, l_26, l_30, l_31, l_32, l_48, l_57, l_59, l_63, l_96, l_97, l_100, l_122, l_200, l_255, l_256, l_270, l_400, l_429, l_526, l_780, l_800, l_926, l_1726, l_12082]; exact eq_false c0
    rw [x, hda, if_neg (by rw [e0]; exact id), hhc]
    have c2 : ¬ c < n := fun hx => c1 (Or.inl hx)
    rw [if_neg c2]
    unfold J_X0_takeCode_b77 J_X0_takeCode_b78
    rw [hdc, ho_p]
    simp (disch := first | omega | assumption) only [nq_neg, nq_fix, nq_sub1, nq_addN, nq_add, nq_mul, nq_sub, nq_ltN, nq_Nlt, nq_leN, nq_Nle, nq_lt, nq_le, nq_eq, nq_div, nq_pow, nq_tn, rd_W, wr_W, nS_eq, nS_ne, Option.bind_some, Option.bind_none, ↓reduceIte, Bool.false_eq_true, Nat.reduceEqDiff, Nat.reduceLT, Nat.reduceLeDiff, Nat.reduceAdd, Nat.reduceMul, Nat.reduceSub, Nat.reducePow, Nat.add_sub_cancel, Nat.zero_le, Nat.not_lt_zero, Nat.le_refl, Nat.lt_irrefl, l_0, l_1, l_2, l_3, l_4, l_5, l_6, l_7, l_8, l_9, l_10, l_13, l_14, l_16, l_20, l_24, l_26, l_30, l_31, l_32, l_48, l_57, l_59, l_63, l_96, l_97, l_100, l_122, l_200, l_255, l_256, l_270, l_400, l_429, l_526, l_780, l_800, l_926, l_1726, l_12082]
    refine ⟨o, ?_, h⟩
    by_cases c3 : c = n
    · rw [if_pos c3]
      by_cases c4 : pv = 4294967295
      · rw [if_pos c4]
        rfl
      · rw [if_neg c4, a2, if_neg (fun hx => c1 (Or.inr ⟨c3, c4, hx⟩))]
        simp (disch := first | omega | assumption) only [nq_neg, nq_fix, nq_sub1, nq_addN, nq_add, nq_mul, nq_sub, nq_ltN, nq_Nlt, nq_leN, nq_Nle, nq_lt, nq_le, nq_eq, nq_div, nq_pow, nq_tn, rd_W, wr_W, nS_eq, nS_ne, Option.bind_some, Option.bind_none, ↓reduceIte, Bool.false_eq_true, Nat.reduceEqDiff, Nat.reduceLT, Nat.reduceLeDiff, Nat.reduceAdd, Nat.reduceMul, Nat.reduceSub, Nat.reducePow, Nat.add_sub_cancel, Nat.zero_le, Nat.not_lt_zero, Nat.le_refl, Nat.lt_irrefl, l_0, l_1, l_2, l_3, l_4, l_5, l_6, l_7, l_8, l_9, l_10, l_13, l_14, l_16, l_20, l_24, l_26, l_30, l_31, l_32, l_48, l_57, l_59, l_63, l_96, l_97, l_100, l_122, l_200, l_255, l_256, l_270, l_400, l_429, l_526, l_780, l_800, l_926, l_1726, l_12082]
        rfl
    · rw [if_neg c3]
      rfl
  · have e0 : (nI c = nI z) = False := by simp (disch := first | omega | assumption) only [nq_neg, nq_fix, nq_sub1, nq_addN, nq_add, nq_mul, nq_sub, nq_ltN, nq_Nlt, nq_leN, nq_Nle, nq_lt, nq_le, nq_eq, nq_div, nq_pow, nq_tn, rd_W, wr_W, nS_eq, nS_ne, Option.bind_some, Option.bind_none, ↓reduceIte, Bool.false_eq_true, Nat.reduceEqDiff, Nat.reduceLT, Nat.reduceLeDiff, Nat.reduceAdd, Nat.reduceMul, Nat.reduceSub, Nat.reducePow, Nat.add_sub_cancel, Nat.zero_le, Nat.not_lt_zero, Nat.le_refl, Nat.lt_irrefl, l_0, l_1, l_2, l_3, l_4, l_5, l_6, l_7, l_8, l_9, l_10, l_13, l_14, l_16, l_20, l_24, l_26, l_30, l_31, l_32, l_48, l_57, l_59, l_63, l_96, l_97, l_100, l_122, l_200, l_255, l_256, l_270, l_400, l_429, l_526, l_780, l_800, l_926, l_1726, l_12082]; exact eq_false c0
    rw [x, hda, if_neg (by rw [e0]; exact id), hhc, if_pos c1]
    have hl := ph_le wd c c1
    unfold J_X0_takePhrase
    simp (disch := first | omega | assumption) only [nq_neg, nq_fix, nq_sub1, nq_addN, nq_add, nq_mul, nq_sub, nq_ltN, nq_Nlt, nq_leN, nq_Nle, nq_lt, nq_le, nq_eq, nq_div, nq_pow, nq_tn, rd_W, wr_W, nS_eq, nS_ne, Option.bind_some, Option.bind_none, ↓reduceIte, Bool.false_eq_true, Nat.reduceEqDiff, Nat.reduceLT, Nat.reduceLeDiff, Nat.reduceAdd, Nat.reduceMul, Nat.reduceSub, Nat.reducePow, Nat.add_sub_cancel, Nat.zero_le, Nat.not_lt_zero, Nat.le_refl, Nat.lt_irrefl, l_0, l_1, l_2, l_3, l_4, l_5, l_6, l_7, l_8, l_9, l_10, l_13, l_14, l_16, l_20, l_24, l_26, l_30, l_31, l_32, l_48, l_57, l_59, l_63, l_96, l_97, l_100, l_122, l_200, l_255, l_256, l_270, l_400, l_429, l_526, l_780, l_800, l_926, l_1726, l_12082, Nat.add_zero, lenOf c c1, ho_c, show ¬ (out.length + (ph z P L c).length ≤ 400) by omega]
    exact ⟨o, if_pos (and1 0 (by omega)), h⟩
  · have e0 : (nI c = nI z) = False := by simp (disch := first | omega | assumption) only [nq_neg, nq_fix, nq_sub1, nq_addN, nq_add, nq_mul, nq_sub, nq_ltN, nq_Nlt, nq_leN, nq_Nle, nq_lt, nq_le, nq_eq, nq_div, nq_pow, nq_tn, rd_W, wr_W, nS_eq, nS_ne, Option.bind_some, Option.bind_none, ↓reduceIte, Bool.false_eq_true, Nat.reduceEqDiff, Nat.reduceLT, Nat.reduceLeDiff, Nat.reduceAdd, Nat.reduceMul, Nat.reduceSub, Nat.reducePow, Nat.add_sub_cancel, Nat.zero_le, Nat.not_lt_zero, Nat.le_refl, Nat.lt_irrefl, l_0, l_1, l_2, l_3, l_4, l_5, l_6, l_7, l_8, l_9, l_10, l_13, l_14, l_16, l_20, l_24, l_26, l_30, l_31, l_32, l_48, l_57, l_59, l_63, l_96, l_97, l_100, l_122, l_200, l_255, l_256, l_270, l_400, l_429, l_526, l_780, l_800, l_926, l_1726, l_12082]; exact eq_false c0
    have hl := ph_le wd pv (by omega)
    rw [x, hda, if_neg (by rw [e0]; exact id), hhc, if_neg (by omega)]
    unfold J_X0_takeCode_b77 J_X0_takeCode_b78 J_X0_takePhrase
    rw [hdc, ho_p]
    simp (disch := first | omega | assumption) only [nq_neg, nq_fix, nq_sub1, nq_addN, nq_add, nq_mul, nq_sub, nq_ltN, nq_Nlt, nq_leN, nq_Nle, nq_lt, nq_le, nq_eq, nq_div, nq_pow, nq_tn, rd_W, wr_W, nS_eq, nS_ne, Option.bind_some, Option.bind_none, ↓reduceIte, Bool.false_eq_true, Nat.reduceEqDiff, Nat.reduceLT, Nat.reduceLeDiff, Nat.reduceAdd, Nat.reduceMul, Nat.reduceSub, Nat.reducePow, Nat.add_sub_cancel, Nat.zero_le, Nat.not_lt_zero, Nat.le_refl, Nat.lt_irrefl, l_0, l_1, l_2, l_3, l_4, l_5, l_6, l_7, l_8, l_9, l_10, l_13, l_14, l_16, l_20, l_24, l_26, l_30, l_31, l_32, l_48, l_57, l_59, l_63, l_96, l_97, l_100, l_122, l_200, l_255, l_256, l_270, l_400, l_429, l_526, l_780, l_800, l_926, l_1726, l_12082, c1, c3, a2, c4, lenOf pv (by omega), ho_c, show ¬ (out.length + ((ph z P L pv).length + 1) ≤ 400) by omega]
    exact ⟨o, rfl, h⟩
  · have e0 : (nI c = nI z) = False := by simp (disch := first | omega | assumption) only [nq_neg, nq_fix, nq_sub1, nq_addN, nq_add, nq_mul, nq_sub, nq_ltN, nq_Nlt, nq_leN, nq_Nle, nq_lt, nq_le, nq_eq, nq_div, nq_pow, nq_tn, rd_W, wr_W, nS_eq, nS_ne, Option.bind_some, Option.bind_none, ↓reduceIte, Bool.false_eq_true, Nat.reduceEqDiff, Nat.reduceLT, Nat.reduceLeDiff, Nat.reduceAdd, Nat.reduceMul, Nat.reduceSub, Nat.reducePow, Nat.add_sub_cancel, Nat.zero_le, Nat.not_lt_zero, Nat.le_refl, Nat.lt_irrefl, l_0, l_1, l_2, l_3, l_4, l_5, l_6, l_7, l_8, l_9, l_10, l_13, l_14, l_16, l_20, l_24, l_26, l_30, l_31, l_32, l_48, l_57, l_59, l_63, l_96, l_97, l_100, l_122, l_200, l_255, l_256, l_270, l_400, l_429, l_526, l_780, l_800, l_926, l_1726, l_12082]; exact eq_false c0
    rw [x, hda, if_neg (by rw [e0]; exact id), hhc, if_pos c1]
    have hl := ph_le wd c c1
    obtain ⟨w, b1⟩ := (k_learn fu hf h hw hz hd (ph_head_lt wd c1 c0)).1 c3
    obtain ⟨o', b2, b3⟩ := k_d54 fu hf h wd (by omega) c1 c0 c2
    unfold J_X0_takePhrase
    simp (disch := first | omega | assumption) only [nq_neg, nq_fix, nq_sub1, nq_addN, nq_add, nq_mul, nq_sub, nq_ltN, nq_Nlt, nq_leN, nq_Nle, nq_lt, nq_le, nq_eq, nq_div, nq_pow, nq_tn, rd_W, wr_W, nS_eq, nS_ne, Option.bind_some, Option.bind_none, ↓reduceIte, Bool.false_eq_true, Nat.reduceEqDiff, Nat.reduceLT, Nat.reduceLeDiff, Nat.reduceAdd, Nat.reduceMul, Nat.reduceSub, Nat.reducePow, Nat.add_sub_cancel, Nat.zero_le, Nat.not_lt_zero, Nat.le_refl, Nat.lt_irrefl, l_0, l_1, l_2, l_3, l_4, l_5, l_6, l_7, l_8, l_9, l_10, l_13, l_14, l_16, l_20, l_24, l_26, l_30, l_31, l_32, l_48, l_57, l_59, l_63, l_96, l_97, l_100, l_122, l_200, l_255, l_256, l_270, l_400, l_429, l_526, l_780, l_800, l_926, l_1726, l_12082, Nat.add_zero, lenOf c c1, ho_c, c2, symOf c c1 c0, b1, show ¬ (c = 4294967295) by omega, b2]
    exact ⟨o', if_pos (and1 1 (by omega)), b3⟩
  · have e0 : (nI c = nI z) = False := by simp (disch := first | omega | assumption) only [nq_neg, nq_fix, nq_sub1, nq_addN, nq_add, nq_mul, nq_sub, nq_ltN, nq_Nlt, nq_leN, nq_Nle, nq_lt, nq_le, nq_eq, nq_div, nq_pow, nq_tn, rd_W, wr_W, nS_eq, nS_ne, Option.bind_some, Option.bind_none, ↓reduceIte, Bool.false_eq_true, Nat.reduceEqDiff, Nat.reduceLT, Nat.reduceLeDiff, Nat.reduceAdd, Nat.reduceMul, Nat.reduceSub, Nat.reducePow, Nat.add_sub_cancel, Nat.zero_le, Nat.not_lt_zero, Nat.le_refl, Nat.lt_irrefl, l_0, l_1, l_2, l_3, l_4, l_5, l_6, l_7, l_8, l_9, l_10, l_13, l_14, l_16, l_20, l_24, l_26, l_30, l_31, l_32, l_48, l_57, l_59, l_63, l_96, l_97, l_100, l_122, l_200, l_255, l_256, l_270, l_400, l_429, l_526, l_780, l_800, l_926, l_1726, l_12082]; exact eq_false c0
    rw [x, hda, if_neg (by rw [e0]; exact id), hhc, if_pos c1]
    have hl := ph_le wd c c1
    obtain ⟨o1, b1, r1⟩ := (k_learn fu hf h hw hz hd (ph_head_lt wd c1 c0)).2 ⟨c3, c4⟩
    have hq := dLn_ok wd ud h1 (show n < 256 by omega) (pv := pv) (s := (ph z P L c).getD 0 0) (by omega) (by omega) (ph_head_lt wd c1 c0)
    have hph := hq.2.2.2.2.2.2.1 c c1
    obtain ⟨o', b2, b3⟩ := k_d54 fu hf r1 hq.2.2.1 (by omega) (show c < _ by omega) c0 (by rw [hph]; exact c2)
    rw [hph] at b2 b3
    unfold J_X0_takePhrase
    simp (disch := first | omega | assumption) only [nq_neg, nq_fix, nq_sub1, nq_addN, nq_add, nq_mul, nq_sub, nq_ltN, nq_Nlt, nq_leN, nq_Nle, nq_lt, nq_le, nq_eq, nq_div, nq_pow, nq_tn, rd_W, wr_W, nS_eq, nS_ne, Option.bind_some, Option.bind_none, ↓reduceIte, Bool.false_eq_true, Nat.reduceEqDiff, Nat.reduceLT, Nat.reduceLeDiff, Nat.reduceAdd, Nat.reduceMul, Nat.reduceSub, Nat.reducePow, Nat.add_sub_cancel, Nat.zero_le, Nat.not_lt_zero, Nat.le_refl, Nat.lt_irrefl, l_0, l_1, l_2, l_3, l_4, l_5, l_6, l_7, l_8, l_9, l_10, l_13, l_14, l_16, l_20, l_24, l_26, l_30, l_31, l_32, l_48, l_57, l_59, l_63, l_96, l_97, l_100, l_122, l_200, l_255, l_256, l_270, l_400, l_429, l_526, l_780, l_800, l_926, l_1726, l_12082, Nat.add_zero, lenOf c c1, ho_c, c2, symOf c c1 c0, b1, show ¬ (c = 4294967295) by omega, b2]
    exact ⟨o', if_pos (and1 1 (by omega)), b3⟩
  · have e0 : (nI c = nI z) = False := by simp (disch := first | omega | assumption) only [nq_neg, nq_fix, nq_sub1, nq_addN, nq_add, nq_mul, nq_sub, nq_ltN, nq_Nlt, nq_leN, nq_Nle, nq_lt, nq_le, nq_eq, nq_div, nq_pow, nq_tn, rd_W, wr_W, nS_eq, nS_ne, Option.bind_some, Option.bind_none, ↓reduceIte, Bool.false_eq_true, Nat.reduceEqDiff, Nat.reduceLT, Nat.reduceLeDiff, Nat.reduceAdd, Nat.reduceMul, Nat.reduceSub, Nat.reducePow, Nat.add_sub_cancel, Nat.zero_le, Nat.not_lt_zero, Nat.le_refl, Nat.lt_irrefl, l_0, l_1, l_2, l_3, l_4, l_5, l_6, l_7, l_8, l_9, l_10, l_13, l_14, l_16, l_20, l_24, l_26, l_30, l_31, l_32, l_48, l_57, l_59, l_63, l_96, l_97, l_100, l_122, l_200, l_255, l_256, l_270, l_400, l_429, l_526, l_780, l_800, l_926, l_1726, l_12082]; exact eq_false c0
    have hp1 : pv < n := by omega
    have hp2 : pv ≠ z := by omega
    have hl := ph_le wd pv hp1
    rw [x, hda, if_neg (by rw [e0]; exact id), hhc, if_neg (by omega)]
    obtain ⟨o1, b1, r1⟩ := (k_learn fu hf h hw hz hd (ph_head_lt wd hp1 hp2)).2 ⟨c3, c4⟩
    have hq := dLn_ok wd ud h1 (show n < 256 by omega) (pv := pv) (s := (ph z P L pv).getD 0 0) hp1 hp2 (ph_head_lt wd hp1 hp2)
    obtain ⟨o', b2, b3⟩ := k_d54 fu hf r1 hq.2.2.1 (by omega) hq.2.2.2.2.2.1 (by omega) (by rw [hq.2.2.2.2.2.2.2, List.length_append]; exact c2)
    rw [hq.2.2.2.2.2.2.2] at b2 b3
    rw [List.length_append] at b2
    simp only [List.length_cons, List.length_nil, Nat.zero_add] at b2
    unfold J_X0_takeCode_b77 J_X0_takeCode_b78 J_X0_takePhrase
    rw [hdc, ho_p]
    simp (disch := first | omega | assumption) only [nq_neg, nq_fix, nq_sub1, nq_addN, nq_add, nq_mul, nq_sub, nq_ltN, nq_Nlt, nq_leN, nq_Nle, nq_lt, nq_le, nq_eq, nq_div, nq_pow, nq_tn, rd_W, wr_W, nS_eq, nS_ne, Option.bind_some, Option.bind_none, ↓reduceIte, Bool.false_eq_true, Nat.reduceEqDiff, Nat.reduceLT, Nat.reduceLeDiff, Nat.reduceAdd, Nat.reduceMul, Nat.reduceSub, Nat.reducePow, Nat.add_sub_cancel, Nat.zero_le, Nat.not_lt_zero, Nat.le_refl, Nat.lt_irrefl, l_0, l_1, l_2, l_3, l_4, l_5, l_6, l_7, l_8, l_9, l_10, l_13, l_14, l_16, l_20, l_24, l_26, l_30, l_31, l_32, l_48, l_57, l_59, l_63, l_96, l_97, l_100, l_122, l_200, l_255, l_256, l_270, l_400, l_429, l_526, l_780, l_800, l_926, l_1726, l_12082, c1, c3, a2, c4, lenOf pv hp1, ho_c, c2, symOf pv hp1 hp2, b1, b2]
    exact ⟨o', rfl, b3⟩
/-! the model's decoder is the machine -/
theorem m_slen_b (fu : Nat) (g : Nat → Nat) (hz : g 0 ≤ 26) {n : Nat} {P L : Nat → Nat} (wd : WD (g 0) n P L) (hn : n ≤ 256) : ∀ f a c, c < n → c ≠ g 0 → c < f → J_X8_seenLength_b4 fu (nW g) (nW P) f (nI (a + 1)) (nI c) = some (nI (a + (ph (g 0) P L c).length)) := by
  intro f
  induction f with
  | zero => intro a c _ _ h1; omega
  | succ f ih =>
    intro a c h1 h2 h3
    unfold J_X8_seenLength_b4
    rw [m_isFirst g hz c (by omega)]
    by_cases h5 : c < g 0
    · rw [ph_lt h5]
      simp (disch := first | omega | assumption) only [nq_neg, nq_fix, nq_sub1, nq_addN, nq_add, nq_mul, nq_sub, nq_ltN, nq_Nlt, nq_leN, nq_Nle, nq_lt, nq_le, nq_eq, nq_div, nq_pow, nq_tn, rd_W, wr_W, nS_eq, nS_ne, Option.bind_some, Option.bind_none, ↓reduceIte, Bool.false_eq_true, Nat.reduceEqDiff, Nat.reduceLT, Nat.reduceLeDiff, Nat.reduceAdd, Nat.reduceMul, Nat.reduceSub, Nat.reducePow, Nat.add_sub_cancel, Nat.zero_le, Nat.not_lt_zero, Nat.le_refl, Nat.lt_irrefl, l_0, l_1, l_2, l_3, l_4, l_5, l_6, l_7, l_8, l_9, l_10, l_13, l_14, l_16, l_20, l_24, l_26, l_30, l_31, l_32, l_48, l_57, l_59, l_63, l_96, l_97, l_100, l_122, l_200, l_255, l_256, l_270, l_400, l_429, l_526, l_780, l_800, l_926, l_1726, l_12082, show c ≤ g 0 by omega]
      rfl
    · have h6 := wd c (by omega) h1
      have h7 := ih (a + 1) (P c) (by omega) h6.2.1 (by omega)
      rw [ph_gt wd (by omega) h1, List.length_append]
      simp (disch := first | omega | assumption) only [nq_neg, nq_fix, nq_sub1, nq_addN, nq_add, nq_mul, nq_sub, nq_ltN, nq_Nlt, nq_leN, nq_Nle, nq_lt, nq_le, nq_eq, nq_div, nq_pow, nq_tn, rd_W, wr_W, nS_eq, nS_ne, Option.bind_some, Option.bind_none, ↓reduceIte, Bool.false_eq_true, Nat.reduceEqDiff, Nat.reduceLT, Nat.reduceLeDiff, Nat.reduceAdd, Nat.reduceMul, Nat.reduceSub, Nat.reducePow, Nat.add_sub_cancel, Nat.zero_le, Nat.not_lt_zero, Nat.le_refl, Nat.lt_irrefl, l_0, l_1, l_2, l_3, l_4, l_5, l_6, l_7, l_8, l_9, l_10, l_13, l_14, l_16, l_20, l_24, l_26, l_30, l_31, l_32, l_48, l_57, l_59, l_63, l_96, l_97, l_100, l_122, l_200, l_255, l_256, l_270, l_400, l_429, l_526, l_780, l_800, l_926, l_1726, l_12082, show ¬ (c ≤ g 0) by omega]
      simp only [List.length_cons, List.length_nil]
      rw [show a + ((ph (g 0) P L (P c)).length + (0 + 1)) = a + 1 + (ph (g 0) P L (P c)).length by omega]
      exact h7
theorem m_seenLength (fu : Nat) (hf : 1000 ≤ fu) (g : Nat → Nat) (hz : g 0 ≤ 26) {n : Nat} {P L : Nat → Nat} (wd : WD (g 0) n P L) (hn : n ≤ 256) (c : Nat) (hc : c < n) (hcz : c ≠ g 0) : J_X8_seenLength fu (nW g) (nW P) (nI c) = some (nI (ph (g 0) P L c).length) := by
  have := m_slen_b fu g hz wd hn fu 0 c hc hcz (by omega)
  simp only [Nat.zero_add] at this
  exact this
theorem m_sfst_b (fu : Nat) (g : Nat → Nat) (hz : g 0 ≤ 26) {n : Nat} {P L : Nat → Nat} (wd : WD (g 0) n P L) (hn : n ≤ 256) : ∀ f c, c < n → c ≠ g 0 → c < f → J_X8_seenFirst_b2 fu (nW g) (nW P) f (nI c) = some (nI ((ph (g 0) P L c).getD 0 0)) := by
  intro f
  induction f with
  | zero => intro c _ _ h1; omega
  | succ f ih =>
    intro c h1 h2 h3
    unfold J_X8_seenFirst_b2
    rw [m_isFirst g hz c (by omega)]
    by_cases h5 : c < g 0
    · rw [ph_lt h5]
      simp (disch := first | omega | assumption) only [nq_neg, nq_fix, nq_sub1, nq_addN, nq_add, nq_mul, nq_sub, nq_ltN, nq_Nlt, nq_leN, nq_Nle, nq_lt, nq_le, nq_eq, nq_div, nq_pow, nq_tn, rd_W, wr_W, nS_eq, nS_ne, Option.bind_some, Option.bind_none, ↓reduceIte, Bool.false_eq_true, Nat.reduceEqDiff, Nat.reduceLT, Nat.reduceLeDiff, Nat.reduceAdd, Nat.reduceMul, Nat.reduceSub, Nat.reducePow, Nat.add_sub_cancel, Nat.zero_le, Nat.not_lt_zero, Nat.le_refl, Nat.lt_irrefl, l_0, l_1, l_2, l_3, l_4, l_5, l_6, l_7, l_8, l_9, l_10, l_13, l_14, l_16, l_20, l_24, l_26, l_30, l_31, l_32, l_48, l_57, l_59, l_63, l_96, l_97, l_100, l_122, l_200, l_255, l_256, l_270, l_400, l_429, l_526, l_780, l_800, l_926, l_1726, l_12082, show c ≤ g 0 by omega]
      rfl
    · have h6 := wd c (by omega) h1
      have h7 := ih (P c) (by omega) h6.2.1 (by omega)
      rw [ph_gt wd (by omega) h1, getD_app0 _ _ (ph_pos wd (show P c < n by omega) h6.2.1)]
      simp (disch := first | omega | assumption) only [nq_neg, nq_fix, nq_sub1, nq_addN, nq_add, nq_mul, nq_sub, nq_ltN, nq_Nlt, nq_leN, nq_Nle, nq_lt, nq_le, nq_eq, nq_div, nq_pow, nq_tn, rd_W, wr_W, nS_eq, nS_ne, Option.bind_some, Option.bind_none, ↓reduceIte, Bool.false_eq_true, Nat.reduceEqDiff, Nat.reduceLT, Nat.reduceLeDiff, Nat.reduceAdd, Nat.reduceMul, Nat.reduceSub, Nat.reducePow, Nat.add_sub_cancel, Nat.zero_le, Nat.not_lt_zero, Nat.le_refl, Nat.lt_irrefl, l_0, l_1, l_2, l_3, l_4, l_5, l_6, l_7, l_8, l_9, l_10, l_13, l_14, l_16, l_20, l_24, l_26, l_30, l_31, l_32, l_48, l_57, l_59, l_63, l_96, l_97, l_100, l_122, l_200, l_255, l_256, l_270, l_400, l_429, l_526, l_780, l_800, l_926, l_1726, l_12082, show ¬ (c ≤ g 0) by omega]
      exact h7
theorem m_seenFirst (fu : Nat) (hf : 1000 ≤ fu) (g : Nat → Nat) (hz : g 0 ≤ 26) {n : Nat} {P L : Nat → Nat} (wd : WD (g 0) n P L) (hn : n ≤ 256) (c : Nat) (hc : c < n) (hcz : c ≠ g 0) : J_X8_seenFirst fu (nW g) (nW P) (nI c) = some (nI ((ph (g 0) P L c).getD 0 0)) :=
  m_sfst_b fu g hz wd hn fu c hc hcz (by omega)
theorem m_slon_b (fu : Nat) (g : Nat → Nat) {n : Nat} {P L : Nat → Nat} (wd : WD (g 0) n P L) (ud : UD (g 0) n P L) (hz : g 0 ≤ 26) (hn : n ≤ 256) (c s : Nat) (hc : c < 4294967296) (hs : s < 4294967296) : ∀ f k, g 0 < k → k ≤ n → n < f + k → (∀ j, g 0 < j → j < k → ¬ (P j = c ∧ L j = s)) →
    J_X8_seenLonger_b7 fu (nW g) (nW P) (nW L) (nI n) f (nI c) (nI s) (nI k) = some (nI (kidS (g 0) P L c s n)) := by
  intro f
  induction f with
  | zero => intro k _ h1 h2; omega
  | succ f ih =>
    intro k hk1 hk2 hk3 hn2
    unfold J_X8_seenLonger_b7
    by_cases h5 : k = n
    · subst h5
      simp (disch := first | omega | assumption) only [nq_neg, nq_fix, nq_sub1, nq_addN, nq_add, nq_mul, nq_sub, nq_ltN, nq_Nlt, nq_leN, nq_Nle, nq_lt, nq_le, nq_eq, nq_div, nq_pow, nq_tn, rd_W, wr_W, nS_eq, nS_ne, Option.bind_some, Option.bind_none, ↓reduceIte, Bool.false_eq_true, Nat.reduceEqDiff, Nat.reduceLT, Nat.reduceLeDiff, Nat.reduceAdd, Nat.reduceMul, Nat.reduceSub, Nat.reducePow, Nat.add_sub_cancel, Nat.zero_le, Nat.not_lt_zero, Nat.le_refl, Nat.lt_irrefl, l_0, l_1, l_2, l_3, l_4, l_5, l_6, l_7, l_8, l_9, l_10, l_13, l_14, l_16, l_20, l_24, l_26, l_30, l_31, l_32, l_48, l_57, l_59, l_63, l_96, l_97, l_100, l_122, l_200, l_255, l_256, l_270, l_400, l_429, l_526, l_780, l_800, l_926, l_1726, l_12082]
      rw [kidS_none hn2]
    · have h6 := wd k hk1 (by omega)
      simp (disch := first | omega | assumption) only [nq_neg, nq_fix, nq_sub1, nq_addN, nq_add, nq_mul, nq_sub, nq_ltN, nq_Nlt, nq_leN, nq_Nle, nq_lt, nq_le, nq_eq, nq_div, nq_pow, nq_tn, rd_W, wr_W, nS_eq, nS_ne, Option.bind_some, Option.bind_none, ↓reduceIte, Bool.false_eq_true, Nat.reduceEqDiff, Nat.reduceLT, Nat.reduceLeDiff, Nat.reduceAdd, Nat.reduceMul, Nat.reduceSub, Nat.reducePow, Nat.add_sub_cancel, Nat.zero_le, Nat.not_lt_zero, Nat.le_refl, Nat.lt_irrefl, l_0, l_1, l_2, l_3, l_4, l_5, l_6, l_7, l_8, l_9, l_10, l_13, l_14, l_16, l_20, l_24, l_26, l_30, l_31, l_32, l_48, l_57, l_59, l_63, l_96, l_97, l_100, l_122, l_200, l_255, l_256, l_270, l_400, l_429, l_526, l_780, l_800, l_926, l_1726, l_12082, show ¬ (n ≤ k) by omega]
      have hr : ¬ (P k = c ∧ L k = s) → _ := fun hx => ih (k + 1) (by omega) (by omega) (by omega) (fun j h7 h8 => by
        rcases Nat.lt_or_ge j k with h9 | h9
        · exact hn2 j h7 h9
        · have : j = k := by omega
          rw [this]; exact hx)
      by_cases h7 : P k = c
      · by_cases h8 : L k = s
        · rw [if_pos h7, if_pos h8, kidS_of ud hk1 (by omega) h7 h8]
        · rw [if_pos h7, if_neg h8]
          exact hr (fun h => h8 h.2)
      · rw [if_neg h7]
        exact hr (fun h => h7 h.1)
theorem m_seesLonger (fu : Nat) (hf : 1000 ≤ fu) (g : Nat → Nat) {n : Nat} {P L : Nat → Nat} (wd : WD (g 0) n P L) (ud : UD (g 0) n P L) (hz : g 0 ≤ 26) (hzn : g 0 < n) (hn : n < 256) (pv s : Nat) (hc : pv < n) (hs : s < g 0) :
    J_X8_seesLonger fu (nW g) (nW P) (nW L) (nI n) (nI pv) (nI s) = some (nI (dLn (g 0) n P L pv s).2.2.2, nW (dLn (g 0) n P L pv s).2.1, nW (dLn (g 0) n P L pv s).2.2.1, nI (dLn (g 0) n P L pv s).1) := by
  have h1 := m_slon_b fu g wd ud hz (by omega) pv s (by omega) (by omega) fu (g 0 + 1) (by omega) (by omega) (by omega) (fun j h1 h2 => by omega)
  unfold J_X8_seesLonger J_X8_seenLonger J_X8_clear dLn
  simp (disch := first | omega | assumption) only [nq_neg, nq_fix, nq_sub1, nq_addN, nq_add, nq_mul, nq_sub, nq_ltN, nq_Nlt, nq_leN, nq_Nle, nq_lt, nq_le, nq_eq, nq_div, nq_pow, nq_tn, rd_W, wr_W, nS_eq, nS_ne, Option.bind_some, Option.bind_none, ↓reduceIte, Bool.false_eq_true, Nat.reduceEqDiff, Nat.reduceLT, Nat.reduceLeDiff, Nat.reduceAdd, Nat.reduceMul, Nat.reduceSub, Nat.reducePow, Nat.add_sub_cancel, Nat.zero_le, Nat.not_lt_zero, Nat.le_refl, Nat.lt_irrefl, l_0, l_1, l_2, l_3, l_4, l_5, l_6, l_7, l_8, l_9, l_10, l_13, l_14, l_16, l_20, l_24, l_26, l_30, l_31, l_32, l_48, l_57, l_59, l_63, l_96, l_97, l_100, l_122, l_200, l_255, l_256, l_270, l_400, l_429, l_526, l_780, l_800, l_926, l_1726, l_12082, h1]
  by_cases c1 : kidS (g 0) P L pv s n = 4294967295
  · rw [c1]
    simp (disch := first | omega | assumption) only [nq_neg, nq_fix, nq_sub1, nq_addN, nq_add, nq_mul, nq_sub, nq_ltN, nq_Nlt, nq_leN, nq_Nle, nq_lt, nq_le, nq_eq, nq_div, nq_pow, nq_tn, rd_W, wr_W, nS_eq, nS_ne, Option.bind_some, Option.bind_none, ↓reduceIte, Bool.false_eq_true, Nat.reduceEqDiff, Nat.reduceLT, Nat.reduceLeDiff, Nat.reduceAdd, Nat.reduceMul, Nat.reduceSub, Nat.reducePow, Nat.add_sub_cancel, Nat.zero_le, Nat.not_lt_zero, Nat.le_refl, Nat.lt_irrefl, l_0, l_1, l_2, l_3, l_4, l_5, l_6, l_7, l_8, l_9, l_10, l_13, l_14, l_16, l_20, l_24, l_26, l_30, l_31, l_32, l_48, l_57, l_59, l_63, l_96, l_97, l_100, l_122, l_200, l_255, l_256, l_270, l_400, l_429, l_526, l_780, l_800, l_926, l_1726, l_12082]
  · have hk : kidS (g 0) P L pv s n < n := by
      rcases kidS_cases (g 0) P L pv s n with ⟨k1, _⟩ | ⟨k1, k2, k3, k4⟩
      · exact absurd k1 c1
      · exact k2
    simp (disch := first | omega | assumption) only [nq_neg, nq_fix, nq_sub1, nq_addN, nq_add, nq_mul, nq_sub, nq_ltN, nq_Nlt, nq_leN, nq_Nle, nq_lt, nq_le, nq_eq, nq_div, nq_pow, nq_tn, rd_W, wr_W, nS_eq, nS_ne, Option.bind_some, Option.bind_none, ↓reduceIte, Bool.false_eq_true, Nat.reduceEqDiff, Nat.reduceLT, Nat.reduceLeDiff, Nat.reduceAdd, Nat.reduceMul, Nat.reduceSub, Nat.reducePow, Nat.add_sub_cancel, Nat.zero_le, Nat.not_lt_zero, Nat.le_refl, Nat.lt_irrefl, l_0, l_1, l_2, l_3, l_4, l_5, l_6, l_7, l_8, l_9, l_10, l_13, l_14, l_16, l_20, l_24, l_26, l_30, l_31, l_32, l_48, l_57, l_59, l_63, l_96, l_97, l_100, l_122, l_200, l_255, l_256, l_270, l_400, l_429, l_526, l_780, l_800, l_926, l_1726, l_12082, c1]
theorem m_gn_b (fu : Nat) (g : Nat → Nat) (hz : g 0 ≤ 26) {n : Nat} {P L : Nat → Nat} (wd : WD (g 0) n P L) (hn : n ≤ 256) (a y : Nat) : ∀ f c r, c < n → c ≠ g 0 → c < f → a + (ph (g 0) P L c).length ≤ 400 →
    J_X8_gains_b13 fu (nW g) (nW P) (nW L) f (nW r) (nI a) (nI y) (nI c) (nI ((ph (g 0) P L c).length - 1)) = some (nW (spl r a (ph (g 0) P L c)), nI (a + y)) := by
  intro f
  induction f with
  | zero => intro c r _ _ h1; omega
  | succ f ih =>
    intro c r h1 h2 h3 h4
    have hl := ph_le wd c h1
    unfold J_X8_gains_b13
    by_cases h5 : c < g 0
    · rw [ph_lt h5] at h4 ⊢
      simp only [List.length_cons, List.length_nil] at h4 ⊢
      simp (disch := first | omega | assumption) only [nq_neg, nq_fix, nq_sub1, nq_addN, nq_add, nq_mul, nq_sub, nq_ltN, nq_Nlt, nq_leN, nq_Nle, nq_lt, nq_le, nq_eq, nq_div, nq_pow, nq_tn, rd_W, wr_W, nS_eq, nS_ne, Option.bind_some, Option.bind_none, ↓reduceIte, Bool.false_eq_true, Nat.reduceEqDiff, Nat.reduceLT, Nat.reduceLeDiff, Nat.reduceAdd, Nat.reduceMul, Nat.reduceSub, Nat.reducePow, Nat.add_sub_cancel, Nat.zero_le, Nat.not_lt_zero, Nat.le_refl, Nat.lt_irrefl, l_0, l_1, l_2, l_3, l_4, l_5, l_6, l_7, l_8, l_9, l_10, l_13, l_14, l_16, l_20, l_24, l_26, l_30, l_31, l_32, l_48, l_57, l_59, l_63, l_96, l_97, l_100, l_122, l_200, l_255, l_256, l_270, l_400, l_429, l_526, l_780, l_800, l_926, l_1726, l_12082, spl_one]
    · have h6 := wd c (by omega) h1
      have hp := ph_pos wd (show P c < n by omega) h6.2.1
      have h7 := ih (P c) (nS r (a + (ph (g 0) P L (P c)).length) (L c)) (by omega) h6.2.1 (by omega)
      rw [spl_app] at h7
      rw [ph_gt wd (by omega) h1] at h4 hl ⊢
      rw [List.length_append] at h4 hl ⊢
      simp only [List.length_cons, List.length_nil] at h4 hl ⊢
      simp (disch := first | omega | assumption) only [nq_neg, nq_fix, nq_sub1, nq_addN, nq_add, nq_mul, nq_sub, nq_ltN, nq_Nlt, nq_leN, nq_Nle, nq_lt, nq_le, nq_eq, nq_div, nq_pow, nq_tn, rd_W, wr_W, nS_eq, nS_ne, Option.bind_some, Option.bind_none, ↓reduceIte, Bool.false_eq_true, Nat.reduceEqDiff, Nat.reduceLT, Nat.reduceLeDiff, Nat.reduceAdd, Nat.reduceMul, Nat.reduceSub, Nat.reducePow, Nat.add_sub_cancel, Nat.zero_le, Nat.not_lt_zero, Nat.le_refl, Nat.lt_irrefl, l_0, l_1, l_2, l_3, l_4, l_5, l_6, l_7, l_8, l_9, l_10, l_13, l_14, l_16, l_20, l_24, l_26, l_30, l_31, l_32, l_48, l_57, l_59, l_63, l_96, l_97, l_100, l_122, l_200, l_255, l_256, l_270, l_400, l_429, l_526, l_780, l_800, l_926, l_1726, l_12082, show ¬ ((ph (g 0) P L (P c)).length ≤ 0) by omega]
      exact h7 (by omega)
theorem m_gains (fu : Nat) (hf : 1000 ≤ fu) (g : Nat → Nat) (hz : g 0 ≤ 26) {n : Nat} {P L : Nat → Nat} (wd : WD (g 0) n P L) (hn : n ≤ 256) (r : Nat → Nat) (a c : Nat) (hc : c < n) (hcz : c ≠ g 0) (hl : a + (ph (g 0) P L c).length ≤ 400) :
    J_X8_gains fu (nW g) (nW P) (nW L) (nW r) (nI a) (nI c) = some (nW (spl r a (ph (g 0) P L c)), nI (a + (ph (g 0) P L c).length)) := by
  have hp := ph_pos wd hc hcz
  have h1 := m_gn_b fu g hz wd hn a (ph (g 0) P L c).length fu c r hc hcz (by omega) hl
  unfold J_X8_gains
  rw [m_seenLength fu hf g hz wd hn c hc hcz]
  simp (disch := first | omega | assumption) only [nq_neg, nq_fix, nq_sub1, nq_addN, nq_add, nq_mul, nq_sub, nq_ltN, nq_Nlt, nq_leN, nq_Nle, nq_lt, nq_le, nq_eq, nq_div, nq_pow, nq_tn, rd_W, wr_W, nS_eq, nS_ne, Option.bind_some, Option.bind_none, ↓reduceIte, Bool.false_eq_true, Nat.reduceEqDiff, Nat.reduceLT, Nat.reduceLeDiff, Nat.reduceAdd, Nat.reduceMul, Nat.reduceSub, Nat.reducePow, Nat.add_sub_cancel, Nat.zero_le, Nat.not_lt_zero, Nat.le_refl, Nat.lt_irrefl, l_0, l_1, l_2, l_3, l_4, l_5, l_6, l_7, l_8, l_9, l_10, l_13, l_14, l_16, l_20, l_24, l_26, l_30, l_31, l_32, l_48, l_57, l_59, l_63, l_96, l_97, l_100, l_122, l_200, l_255, l_256, l_270, l_400, l_429, l_526, l_780, l_800, l_926, l_1726, l_12082]
  exact h1
theorem m_hasPlace (g : Nat → Nat) (h1 : g 1 ≤ 8) (n pv : Nat) (hn : n ≤ 256) (hpv : pv = 4294967295 ∨ pv < n) : J_X8_hasPlace (nW g) (nI n) (nI pv) = some (nI (if pv ≠ 4294967295 ∧ n < 2 ^ g 1 then 1 else 0)) := by
  have hM := pow_le8 (g 1) h1
  unfold J_X8_hasPlace
  rw [m_mostCodes g h1]
  rcases hpv with h | h
  · subst h
    rw [show (if (4294967295 : Nat) ≠ 4294967295 ∧ n < 2 ^ g 1 then 1 else 0) = 0 from if_neg (fun hx => hx.1 rfl)]
    simp (disch := first | omega | assumption) only [nq_neg, nq_fix, nq_sub1, nq_addN, nq_add, nq_mul, nq_sub, nq_ltN, nq_Nlt, nq_leN, nq_Nle, nq_lt, nq_le, nq_eq, nq_div, nq_pow, nq_tn, rd_W, wr_W, nS_eq, nS_ne, Option.bind_some, Option.bind_none, ↓reduceIte, Bool.false_eq_true, Nat.reduceEqDiff, Nat.reduceLT, Nat.reduceLeDiff, Nat.reduceAdd, Nat.reduceMul, Nat.reduceSub, Nat.reducePow, Nat.add_sub_cancel, Nat.zero_le, Nat.not_lt_zero, Nat.le_refl, Nat.lt_irrefl, l_0, l_1, l_2, l_3, l_4, l_5, l_6, l_7, l_8, l_9, l_10, l_13, l_14, l_16, l_20, l_24, l_26, l_30, l_31, l_32, l_48, l_57, l_59, l_63, l_96, l_97, l_100, l_122, l_200, l_255, l_256, l_270, l_400, l_429, l_526, l_780, l_800, l_926, l_1726, l_12082]
  · simp (disch := first | omega | assumption) only [nq_neg, nq_fix, nq_sub1, nq_addN, nq_add, nq_mul, nq_sub, nq_ltN, nq_Nlt, nq_leN, nq_Nle, nq_lt, nq_le, nq_eq, nq_div, nq_pow, nq_tn, rd_W, wr_W, nS_eq, nS_ne, Option.bind_some, Option.bind_none, ↓reduceIte, Bool.false_eq_true, Nat.reduceEqDiff, Nat.reduceLT, Nat.reduceLeDiff, Nat.reduceAdd, Nat.reduceMul, Nat.reduceSub, Nat.reducePow, Nat.add_sub_cancel, Nat.zero_le, Nat.not_lt_zero, Nat.le_refl, Nat.lt_irrefl, l_0, l_1, l_2, l_3, l_4, l_5, l_6, l_7, l_8, l_9, l_10, l_13, l_14, l_16, l_20, l_24, l_26, l_30, l_31, l_32, l_48, l_57, l_59, l_63, l_96, l_97, l_100, l_122, l_200, l_255, l_256, l_270, l_400, l_429, l_526, l_780, l_800, l_926, l_1726, l_12082]
    by_cases c : n < 2 ^ g 1
    · rw [if_neg (by omega), if_pos ⟨by omega, c⟩]
    · rw [if_pos (by omega), if_neg (fun hx => c hx.2)]
theorem m_isNext (g : Nat → Nat) (h1 : g 1 ≤ 8) (n pv c : Nat) (hn : n ≤ 256) (hpv : pv = 4294967295 ∨ pv < n) (hc : c < 2147483648) : J_X8_isNext (nW g) (nI n) (nI pv) (nI c) = some (nI (if c = n ∧ pv ≠ 4294967295 ∧ n < 2 ^ g 1 then 1 else 0)) := by
  unfold J_X8_isNext
  rw [m_hasPlace g h1 n pv hn hpv]
  simp (disch := first | omega | assumption) only [nq_neg, nq_fix, nq_sub1, nq_addN, nq_add, nq_mul, nq_sub, nq_ltN, nq_Nlt, nq_leN, nq_Nle, nq_lt, nq_le, nq_eq, nq_div, nq_pow, nq_tn, rd_W, wr_W, nS_eq, nS_ne, Option.bind_some, Option.bind_none, ↓reduceIte, Bool.false_eq_true, Nat.reduceEqDiff, Nat.reduceLT, Nat.reduceLeDiff, Nat.reduceAdd, Nat.reduceMul, Nat.reduceSub, Nat.reducePow, Nat.add_sub_cancel, Nat.zero_le, Nat.not_lt_zero, Nat.le_refl, Nat.lt_irrefl, l_0, l_1, l_2, l_3, l_4, l_5, l_6, l_7, l_8, l_9, l_10, l_13, l_14, l_16, l_20, l_24, l_26, l_30, l_31, l_32, l_48, l_57, l_59, l_63, l_96, l_97, l_100, l_122, l_200, l_255, l_256, l_270, l_400, l_429, l_526, l_780, l_800, l_926, l_1726, l_12082]
  by_cases c1 : c = n
  · rw [if_pos c1]
    by_cases c2 : pv ≠ 4294967295 ∧ n < 2 ^ g 1
    · rw [if_pos c2, if_pos ⟨c1, c2⟩]
      rfl
    · rw [if_neg c2, if_neg (fun hx => c2 hx.2)]
      rfl
  · rw [if_neg c1, if_neg (fun hx => c1 hx.1)]
theorem m_isValid (g : Nat → Nat) (h1 : g 1 ≤ 8) (n pv c : Nat) (hn : n ≤ 256) (hn1 : 1 ≤ n) (hpv : pv = 4294967295 ∨ pv < n) (hc : c < 2147483648) : J_X8_isValid (nW g) (nI n) (nI pv) (nI c) = some (nI (if c < n ∨ (c = n ∧ pv ≠ 4294967295 ∧ n < 2 ^ g 1) then 1 else 0)) := by
  unfold J_X8_isValid
  rw [m_isNext g h1 n pv c hn hpv hc, l_0, l_1, nq_sub n 1 hn1, m_in c 0 (n - 1) hc (by omega) (by omega)]
  simp only [Option.bind_some]
  by_cases c1 : c < n
  · rw [if_pos (show 0 ≤ c ∧ c ≤ n - 1 by omega), if_pos (Or.inl c1)]
    rfl
  · rw [if_neg (show ¬ (0 ≤ c ∧ c ≤ n - 1) by omega)]
    rw [if_pos rfl]
    by_cases c2 : c = n ∧ pv ≠ 4294967295 ∧ n < 2 ^ g 1
    · rw [if_pos c2, if_pos (Or.inr c2)]
      exact if_pos (and1 1 (by omega))
    · rw [if_neg c2, show (if c < n ∨ (c = n ∧ pv ≠ 4294967295 ∧ n < 2 ^ g 1) then 1 else 0) = 0 from if_neg (fun hx => hx.elim c1 c2)]
      exact if_pos (and1 0 (by omega))
/-! the model's decoder: a code; what was written -/
def MO (r : Nat → Nat) (out : List Nat) : Prop := ∀ i, i < out.length → r i = out.getD i 0
theorem MO_spl {r : Nat → Nat} {out A : List Nat} (h : MO r out) : MO (spl r out.length A) (out ++ A) := by
  intro i hi
  rw [List.length_append] at hi
  rw [gd_app]
  by_cases h1 : i < out.length
  · rw [if_pos h1, spl_lo _ _ _ _ h1]; exact h i h1
  · rw [if_neg h1, spl_hi _ _ _ _ (by omega) (by omega)]
theorem m_takes (fu : Nat) (hf : 1000 ≤ fu) (g : Nat → Nat) (hz : g 0 ≤ 26) (h1 : g 1 ≤ 8) (d : DT) (hd : DW (g 0) (2 ^ g 1) d) (r : Nat → Nat) (hr : MO r d.2.2.2.2) (c : Nat) (hc : c < 2147483648) :
    ∃ r', J_X8_takes fu (nW g) (nW d.2.1) (nW d.2.2.1) (nI d.1) (nI d.2.2.2.1) (nW r) (nI d.2.2.2.2.length) (nI c) =
      some (nI (okI (dTk (g 0) (2 ^ g 1) d c)), nW ((dTk (g 0) (2 ^ g 1) d c).getD d).2.1, nW ((dTk (g 0) (2 ^ g 1) d c).getD d).2.2.1, nI ((dTk (g 0) (2 ^ g 1) d c).getD d).1, nI ((dTk (g 0) (2 ^ g 1) d c).getD d).2.2.2.1, nW r', nI ((dTk (g 0) (2 ^ g 1) d c).getD d).2.2.2.2.length) ∧
      MO r' ((dTk (g 0) (2 ^ g 1) d c).getD d).2.2.2.2 := by
  obtain ⟨n, P, L, pv, out⟩ := d
  obtain ⟨a1, a2, wd, ud, hpv, hout⟩ := id hd
  have hM := pow_le8 (g 1) h1
  have hpv' : pv = 4294967295 ∨ pv < n := by omega
  have ev := m_isValid g h1 n pv c (by omega) (by omega) hpv' hc
  have ex := m_isNext g h1 n pv c (by omega) hpv' hc
  have eh := m_hasPlace g h1 n pv (by omega) hpv'
  have slen := fun c hc hcz => m_seenLength fu hf g hz wd (by omega) c hc hcz
  have sfst := fun c hc hcz => m_seenFirst fu hf g hz wd (by omega) c hc hcz
  simp only at hr ⊢
  unfold J_X8_takes J_X8_clear
  rcases dTk_cases (show g 0 < 256 by omega) hM hd c with ⟨c0, x⟩ | ⟨c0, c1, x⟩ | ⟨c0, c1, c2, x⟩ | ⟨c0, c1, c3, c4, c2, x⟩ | ⟨c0, c1, c2, c3, x⟩ | ⟨c0, c1, c2, c3, c4, x⟩ | ⟨c0, c1, c3, c4, c2, x⟩
  · refine ⟨r, ?_, by rw [x]; exact hr⟩
    rw [x]
    simp (disch := first | omega | assumption) only [nq_neg, nq_fix, nq_sub1, nq_addN, nq_add, nq_mul, nq_sub, nq_ltN, nq_Nlt, nq_leN, nq_Nle, nq_lt, nq_le, nq_eq, nq_div, nq_pow, nq_tn, rd_W, wr_W, nS_eq, nS_ne, Option.bind_some, Option.bind_none, ↓reduceIte, Bool.false_eq_true, Nat.reduceEqDiff, Nat.reduceLT, Nat.reduceLeDiff, Nat.reduceAdd, Nat.reduceMul, Nat.reduceSub, Nat.reducePow, Nat.add_sub_cancel, Nat.zero_le, Nat.not_lt_zero, Nat.le_refl, Nat.lt_irrefl, l_0, l_1, l_2, l_3, l_4, l_5, l_6, l_7, l_8, l_9, l_10, l_13, l_14, l_16, l_20, l_24, l_26, l_30, l_31, l_32, l_48, l_57, l_59, l_63, l_96, l_97, l_100, l_122, l_200, l_255, l_256, l_270, l_400, l_429, l_526, l_780, l_800, l_926, l_1726, l_12082, c0]
    rfl
  · refine ⟨r, ?_, by rw [x]; exact hr⟩
    rw [if_neg c1] at ev
    rw [x]
    simp (disch := first | omega | assumption) only [nq_neg, nq_fix, nq_sub1, nq_addN, nq_add, nq_mul, nq_sub, nq_ltN, nq_Nlt, nq_leN, nq_Nle, nq_lt, nq_le, nq_eq, nq_div, nq_pow, nq_tn, rd_W, wr_W, nS_eq, nS_ne, Option.bind_some, Option.bind_none, ↓reduceIte, Bool.false_eq_true, Nat.reduceEqDiff, Nat.reduceLT, Nat.reduceLeDiff, Nat.reduceAdd, Nat.reduceMul, Nat.reduceSub, Nat.reducePow, Nat.add_sub_cancel, Nat.zero_le, Nat.not_lt_zero, Nat.le_refl, Nat.lt_irrefl, l_0, l_1, l_2, l_3, l_4, l_5, l_6, l_7, l_8, l_9, l_10, l_13, l_14, l_16, l_20, l_24, l_26, l_30, l_31, l_32, l_48, l_57, l_59, l_63, l_96, l_97, l_100, l_122, l_200, l_255, l_256, l_270, l_400, l_429, l_526, l_780, l_800, l_926, l_1726, l_12082, c0, ev]
    rfl
  · have hl := ph_le wd c c1
    refine ⟨r, ?_, by rw [x]; exact hr⟩
    rw [if_pos (Or.inl c1)] at ev
    rw [if_neg (by omega)] at ex
    rw [x]
    unfold J_X8_lengthTaken
    simp (disch := first | omega | assumption) only [nq_neg, nq_fix, nq_sub1, nq_addN, nq_add, nq_mul, nq_sub, nq_ltN, nq_Nlt, nq_leN, nq_Nle, nq_lt, nq_le, nq_eq, nq_div, nq_pow, nq_tn, rd_W, wr_W, nS_eq, nS_ne, Option.bind_some, Option.bind_none, ↓reduceIte, Bool.false_eq_true, Nat.reduceEqDiff, Nat.reduceLT, Nat.reduceLeDiff, Nat.reduceAdd, Nat.reduceMul, Nat.reduceSub, Nat.reducePow, Nat.add_sub_cancel, Nat.zero_le, Nat.not_lt_zero, Nat.le_refl, Nat.lt_irrefl, l_0, l_1, l_2, l_3, l_4, l_5, l_6, l_7, l_8, l_9, l_10, l_13, l_14, l_16, l_20, l_24, l_26, l_30, l_31, l_32, l_48, l_57, l_59, l_63, l_96, l_97, l_100, l_122, l_200, l_255, l_256, l_270, l_400, l_429, l_526, l_780, l_800, l_926, l_1726, l_12082, c0, ev, ex, slen c c1 c0, show ¬ (out.length + (ph (g 0) P L c).length ≤ 400) by omega]
    rfl
  · have hl := ph_le wd pv (by omega)
    refine ⟨r, ?_, by rw [x]; exact hr⟩
    rw [if_pos (Or.inr ⟨c1, c3, c4⟩)] at ev
    rw [if_pos ⟨c1, c3, c4⟩] at ex
    rw [x]
    unfold J_X8_lengthTaken
    simp (disch := first | omega | assumption) only [nq_neg, nq_fix, nq_sub1, nq_addN, nq_add, nq_mul, nq_sub, nq_ltN, nq_Nlt, nq_leN, nq_Nle, nq_lt, nq_le, nq_eq, nq_div, nq_pow, nq_tn, rd_W, wr_W, nS_eq, nS_ne, Option.bind_some, Option.bind_none, ↓reduceIte, Bool.false_eq_true, Nat.reduceEqDiff, Nat.reduceLT, Nat.reduceLeDiff, Nat.reduceAdd, Nat.reduceMul, Nat.reduceSub, Nat.reducePow, Nat.add_sub_cancel, Nat.zero_le, Nat.not_lt_zero, Nat.le_refl, Nat.lt_irrefl, l_0, l_1, l_2, l_3, l_4, l_5, l_6, l_7, l_8, l_9, l_10, l_13, l_14, l_16, l_20, l_24, l_26, l_30, l_31, l_32, l_48, l_57, l_59, l_63, l_96, l_97, l_100, l_122, l_200, l_255, l_256, l_270, l_400, l_429, l_526, l_780, l_800, l_926, l_1726, l_12082, c0, ev, ex, slen pv (by omega) (by omega), show ¬ (out.length + ((ph (g 0) P L pv).length + 1) ≤ 400) by omega]
    rfl
  · have hl := ph_le wd c c1
    refine ⟨spl r out.length (ph (g 0) P L c), ?_, by rw [x]; exact MO_spl hr⟩
    rw [if_pos (Or.inl c1)] at ev
    rw [if_neg (by omega)] at ex
    rw [if_neg c3] at eh
    have eg := m_gains fu hf g hz wd (by omega) r out.length c c1 c0 c2
    rw [x]
    unfold J_X8_lengthTaken J_X8_sees
    simp (disch := first | omega | assumption) only [nq_neg, nq_fix, nq_sub1, nq_addN, nq_add, nq_mul, nq_sub, nq_ltN, nq_Nlt, nq_leN, nq_Nle, nq_lt, nq_le, nq_eq, nq_div, nq_pow, nq_tn, rd_W, wr_W, nS_eq, nS_ne, Option.bind_some, Option.bind_none, ↓reduceIte, Bool.false_eq_true, Nat.reduceEqDiff, Nat.reduceLT, Nat.reduceLeDiff, Nat.reduceAdd, Nat.reduceMul, Nat.reduceSub, Nat.reducePow, Nat.add_sub_cancel, Nat.zero_le, Nat.not_lt_zero, Nat.le_refl, Nat.lt_irrefl, l_0, l_1, l_2, l_3, l_4, l_5, l_6, l_7, l_8, l_9, l_10, l_13, l_14, l_16, l_20, l_24, l_26, l_30, l_31, l_32, l_48, l_57, l_59, l_63, l_96, l_97, l_100, l_122, l_200, l_255, l_256, l_270, l_400, l_429, l_526, l_780, l_800, l_926, l_1726, l_12082, c0, ev, ex, eh, slen c c1 c0, c2, eg]
    rw [show ((some (n, P, L, c, out ++ ph (g 0) P L c)).getD (n, P, L, pv, out)).2.2.2.2.length = out.length + (ph (g 0) P L c).length from List.length_append]
    rfl
  · have hl := ph_le wd c c1
    have hq := dLn_ok wd ud a1 (show n < 256 by omega) (pv := pv) (s := (ph (g 0) P L c).getD 0 0) (by omega) (by omega) (ph_head_lt wd c1 c0)
    have hph := hq.2.2.2.2.2.2.1 c c1
    have es := m_seesLonger fu hf g wd ud hz (by omega) (by omega) pv ((ph (g 0) P L c).getD 0 0) (by omega) (ph_head_lt wd c1 c0)
    have eg := m_gains fu hf g hz hq.2.2.1 (by omega) r out.length c (show c < _ by omega) c0 (by rw [hph]; exact c2)
    rw [hph] at eg
    refine ⟨spl r out.length (ph (g 0) P L c), ?_, by rw [x]; exact MO_spl hr⟩
    rw [if_pos (Or.inl c1)] at ev
    rw [if_neg (by omega)] at ex
    rw [if_pos ⟨c3, c4⟩] at eh
    rw [x]
    unfold J_X8_lengthTaken J_X8_sees
    simp (disch := first | omega | assumption) only [nq_neg, nq_fix, nq_sub1, nq_addN, nq_add, nq_mul, nq_sub, nq_ltN, nq_Nlt, nq_leN, nq_Nle, nq_lt, nq_le, nq_eq, nq_div, nq_pow, nq_tn, rd_W, wr_W, nS_eq, nS_ne, Option.bind_some, Option.bind_none, ↓reduceIte, Bool.false_eq_true, Nat.reduceEqDiff, Nat.reduceLT, Nat.reduceLeDiff, Nat.reduceAdd, Nat.reduceMul, Nat.reduceSub, Nat.reducePow, Nat.add_sub_cancel, Nat.zero_le, Nat.not_lt_zero, Nat.le_refl, Nat.lt_irrefl, l_0, l_1, l_2, l_3, l_4, l_5, l_6, l_7, l_8, l_9, l_10, l_13, l_14, l_16, l_20, l_24, l_26, l_30, l_31, l_32, l_48, l_57, l_59, l_63, l_96, l_97, l_100, l_122, l_200, l_255, l_256, l_270, l_400, l_429, l_526, l_780, l_800, l_926, l_1726, l_12082, c0, ev, ex, eh, slen c c1 c0, c2, sfst c c1 c0, es, eg]
    show _ = some (_, _, _, _, _, _, nI (out ++ ph (g 0) P L c).length)
    rw [List.length_append]
    rfl
  · have hp1 : pv < n := by omega
    have hp2 : pv ≠ g 0 := by omega
    have hl := ph_le wd pv hp1
    have hq := dLn_ok wd ud a1 (show n < 256 by omega) (pv := pv) (s := (ph (g 0) P L pv).getD 0 0) hp1 hp2 (ph_head_lt wd hp1 hp2)
    have hph := hq.2.2.2.2.2.2.2
    have es := m_seesLonger fu hf g wd ud hz (by omega) (by omega) pv ((ph (g 0) P L pv).getD 0 0) hp1 (ph_head_lt wd hp1 hp2)
    have eg := m_gains fu hf g hz hq.2.2.1 (by omega) r out.length _ hq.2.2.2.2.2.1 (by omega) (by rw [hph, List.length_append]; exact c2)
    rw [hph] at eg
    refine ⟨spl r out.length (ph (g 0) P L pv ++ [(ph (g 0) P L pv).getD 0 0]), ?_, by rw [x]; exact MO_spl hr⟩
    rw [if_pos (Or.inr ⟨c1, c3, c4⟩)] at ev
    rw [if_pos ⟨c1, c3, c4⟩] at ex
    rw [if_pos ⟨c3, c4⟩] at eh
    rw [x]
    unfold J_X8_lengthTaken J_X8_sees
    simp (disch := first | omega | assumption) only [nq_neg, nq_fix, nq_sub1, nq_addN, nq_add, nq_mul, nq_sub, nq_ltN, nq_Nlt, nq_leN, nq_Nle, nq_lt, nq_le, nq_eq, nq_div, nq_pow, nq_tn, rd_W, wr_W, nS_eq, nS_ne, Option.bind_some, Option.bind_none, ↓reduceIte, Bool.false_eq_true, Nat.reduceEqDiff, Nat.reduceLT, Nat.reduceLeDiff, Nat.reduceAdd, Nat.reduceMul, Nat.reduceSub, Nat.reducePow, Nat.add_sub_cancel, Nat.zero_le, Nat.not_lt_zero, Nat.le_refl, Nat.lt_irrefl, l_0, l_1, l_2, l_3, l_4, l_5, l_6, l_7, l_8, l_9, l_10, l_13, l_14, l_16, l_20, l_24, l_26, l_30, l_31, l_32, l_48, l_57, l_59, l_63, l_96, l_97, l_100, l_122, l_200, l_255, l_256, l_270, l_400, l_429, l_526, l_780, l_800, l_926, l_1726, l_12082, c0, ev, ex, eh, slen pv hp1 hp2, c2, sfst pv hp1 hp2, es, eg]
    show _ = some (_, _, _, _, _, _, nI (out ++ (ph (g 0) P L pv ++ [(ph (g 0) P L pv).getD 0 0])).length)
    rw [List.length_append (as := out)]
    rfl
/-! what was written, decoded by the model and by the class -/
theorem dRun_pre {z M : Nat} {P0 L0 cod : Nat → Nat} : ∀ K d, dRun z M P0 L0 cod K = some d → ∀ k, k ≤ K → ∃ d', dRun z M P0 L0 cod k = some d' := by
  intro K
  induction K with
  | zero => intro d h k hk; rw [show k = 0 by omega]; exact ⟨_, h⟩
  | succ K ih =>
    intro d h k hk
    by_cases h1 : k = K + 1
    · subst h1; exact ⟨_, h⟩
    · cases h2 : dRun z M P0 L0 cod K with
      | none =>
        have h3 : (dRun z M P0 L0 cod K).bind (fun d => dTk z M d (cod K)) = some d := h
        rw [h2] at h3
        cases h3
      | some d1 => exact ih d1 h2 k (by omega)
theorem dRun_DW {z M : Nat} {P0 L0 cod : Nat → Nat} (hz : z < 256) (hM : M ≤ 256) (hzM : z + 1 ≤ M) : ∀ k d, dRun z M P0 L0 cod k = some d → DW z M d := by
  intro k
  induction k with
  | zero =>
    intro d h
    obtain rfl := Option.some.inj h
    exact ⟨Nat.le_refl _, hzM, fun k h1 h2 => by omega, fun j k h1 h2 h3 => by omega, Or.inl rfl, Nat.zero_le _⟩
  | succ k ih =>
    intro d h
    have h3 : (dRun z M P0 L0 cod k).bind (fun d => dTk z M d (cod k)) = some d := h
    cases h2 : dRun z M P0 L0 cod k with
    | none => rw [h2] at h3; cases h3
    | some d1 =>
      rw [h2] at h3
      exact DW_step hz hM hzM (ih d1 h2) (cod k) h3
theorem dRun_step {z M : Nat} {P0 L0 cod : Nat → Nat} {k : Nat} {d d' : DT} (h : dRun z M P0 L0 cod k = some d) (h' : dRun z M P0 L0 cod (k + 1) = some d') : dTk z M d (cod k) = some d' := by
  have h3 : (dRun z M P0 L0 cod k).bind (fun d => dTk z M d (cod k)) = some d' := h'
  rw [h] at h3
  exact h3
theorem m_dw_b (fu : Nat) (hf : 1000 ≤ fu) (g : Nat → Nat) (hz : g 0 ≤ 26) (h1 : g 1 ≤ 8) (hzM : g 0 + 1 ≤ 2 ^ g 1) (h7 : g 7 ≤ 800) (hcc : ∀ i, i < g 7 → g (926 + i) < 4096) (P0 L0 : Nat → Nat) {D : DT} (hD : dRun (g 0) (2 ^ g 1) P0 L0 (gcd_ g) (g 7) = some D) :
    ∀ f k d r, k ≤ g 7 → g 7 < f + k → dRun (g 0) (2 ^ g 1) P0 L0 (gcd_ g) k = some d → MO r d.2.2.2.2 →
    ∃ r', J_X8_decodesWritten_b8 fu (nW g) f (nW d.2.1) (nW d.2.2.1) (nI d.1) (nI d.2.2.2.1) (nW r) (nI d.2.2.2.2.length) (nI 1) (nI k) = some (nW D.2.1, nW D.2.2.1, nI D.1, nI D.2.2.2.1, nW r', nI D.2.2.2.2.length) ∧ MO r' D.2.2.2.2 := by
  intro f
  have hM := pow_le8 (g 1) h1
  induction f with
  | zero => intro k d r h2 h3; omega
  | succ f ih =>
    intro k d r h2 h3 h4 h5
    unfold J_X8_decodesWritten_b8
    by_cases h6 : k = g 7
    · subst h6
      rw [h4] at hD
      obtain rfl := Option.some.inj hD
      refine ⟨r, ?_, h5⟩
      simp (disch := first | omega | assumption) only [nq_neg, nq_fix, nq_sub1, nq_addN, nq_add, nq_mul, nq_sub, nq_ltN, nq_Nlt, nq_leN, nq_Nle, nq_lt, nq_le, nq_eq, nq_div, nq_pow, nq_tn, rd_W, wr_W, nS_eq, nS_ne, Option.bind_some, Option.bind_none, ↓reduceIte, Bool.false_eq_true, Nat.reduceEqDiff, Nat.reduceLT, Nat.reduceLeDiff, Nat.reduceAdd, Nat.reduceMul, Nat.reduceSub, Nat.reducePow, Nat.add_sub_cancel, Nat.zero_le, Nat.not_lt_zero, Nat.le_refl, Nat.lt_irrefl, l_0, l_1, l_2, l_3, l_4, l_5, l_6, l_7, l_8, l_9, l_10, l_13, l_14, l_16, l_20, l_24, l_26, l_30, l_31, l_32, l_48, l_57, l_59, l_63, l_96, l_97, l_100, l_122, l_200, l_255, l_256, l_270, l_400, l_429, l_526, l_780, l_800, l_926, l_1726, l_12082]
    · obtain ⟨d', h8⟩ := dRun_pre (g 7) D hD (k + 1) (by omega)
      have h9 := dRun_step h4 h8
      have hd := dRun_DW (show g 0 < 256 by omega) hM hzM k d h4
      have hc := hcc k (by omega)
      obtain ⟨r1, a, b⟩ := m_takes fu hf g hz h1 d hd r h5 (gcd_ g k) (by unfold gcd_; omega)
      rw [h9] at a b
      obtain ⟨r', a', b'⟩ := ih (k + 1) d' r1 (by omega) (by omega) h8 b
      refine ⟨r', ?_, b'⟩
      simp (disch := first | omega | assumption) only [nq_neg, nq_fix, nq_sub1, nq_addN, nq_add, nq_mul, nq_sub, nq_ltN, nq_Nlt, nq_leN, nq_Nle, nq_lt, nq_le, nq_eq, nq_div, nq_pow, nq_tn, rd_W, wr_W, nS_eq, nS_ne, Option.bind_some, Option.bind_none, ↓reduceIte, Bool.false_eq_true, Nat.reduceEqDiff, Nat.reduceLT, Nat.reduceLeDiff, Nat.reduceAdd, Nat.reduceMul, Nat.reduceSub, Nat.reducePow, Nat.add_sub_cancel, Nat.zero_le, Nat.not_lt_zero, Nat.le_refl, Nat.lt_irrefl, l_0, l_1, l_2, l_3, l_4, l_5, l_6, l_7, l_8, l_9, l_10, l_13, l_14, l_16, l_20, l_24, l_26, l_30, l_31, l_32, l_48, l_57, l_59, l_63, l_96, l_97, l_100, l_122, l_200, l_255, l_256, l_270, l_400, l_429, l_526, l_780, l_800, l_926, l_1726, l_12082, show ¬ (g 7 ≤ k) by omega, show g (926 + k) / 16 = gcd_ g k from rfl, a]
      exact a'
theorem m_decodesWritten (fu : Nat) (hf : 1000 ≤ fu) {g : Nat → Nat} (h : GOOD g) (P0 L0 r0 : Nat → Nat) (x y w : Int32) :
    ∃ P L n pv r, J_X8_decodesWritten fu (nW g) (nW P0) (nW L0) x y (nW r0) w = some (nW P, nW L, nI n, nI pv, nW r, nI (g 13)) ∧ MO r (syl g (g 13)) := by
  obtain ⟨hw, hsync, hcur⟩ := h
  have hs := SET_of hw
  unfold SET at hs
  have h7 := hw.1.2.2.2.1
  have hcc := hw.1.2.2.2.2.1
  obtain ⟨n, P, L, pv, a, b⟩ := hsync P0 L0
  obtain ⟨r', a', b'⟩ := m_dw_b fu hf g (by omega) (by omega) (by omega) h7 hcc P0 L0 a fu 0 (g 0 + 1, P0, L0, 4294967295, []) r0 (by omega) (by omega) rfl (fun i hi => by simp only [List.length_nil] at hi; omega)
  refine ⟨P, L, n, pv, r', ?_, b'⟩
  unfold J_X8_decodesWritten J_X8_startsDecoder
  simp only [syl_len] at a'
  simp (disch := first | omega | assumption) only [nq_neg, nq_fix, nq_sub1, nq_addN, nq_add, nq_mul, nq_sub, nq_ltN, nq_Nlt, nq_leN, nq_Nle, nq_lt, nq_le, nq_eq, nq_div, nq_pow, nq_tn, rd_W, wr_W, nS_eq, nS_ne, Option.bind_some, Option.bind_none, ↓reduceIte, Bool.false_eq_true, Nat.reduceEqDiff, Nat.reduceLT, Nat.reduceLeDiff, Nat.reduceAdd, Nat.reduceMul, Nat.reduceSub, Nat.reducePow, Nat.add_sub_cancel, Nat.zero_le, Nat.not_lt_zero, Nat.le_refl, Nat.lt_irrefl, l_0, l_1, l_2, l_3, l_4, l_5, l_6, l_7, l_8, l_9, l_10, l_13, l_14, l_16, l_20, l_24, l_26, l_30, l_31, l_32, l_48, l_57, l_59, l_63, l_96, l_97, l_100, l_122, l_200, l_255, l_256, l_270, l_400, l_429, l_526, l_780, l_800, l_926, l_1726, l_12082]
  exact a'
theorem k_ta_b (fu : Nat) (hf : 300 ≤ fu) (g : Nat → Nat) (hz : g 0 ≤ 26) (h1 : g 1 ≤ 8) (hzM : g 0 + 1 ≤ 2 ^ g 1) (h7 : g 7 ≤ 800) (hcc : ∀ i, i < g 7 → g (926 + i) < 4096) (wr : Nat → Nat) (hwr : ∀ i, i < g 7 → wr i = gcd_ g i) (P0 L0 : Nat → Nat) {D : DT} (hD : dRun (g 0) (2 ^ g 1) P0 L0 (gcd_ g) (g 7) = some D) :
    ∀ f k d o, k ≤ g 7 → g 7 < f + k → dRun (g 0) (2 ^ g 1) P0 L0 (gcd_ g) k = some d → RO o (g 0) (g 1) d →
    ∃ o', J_X0_takeAll_b2 fu 800 (nW wr) f o (nI (g 7)) (nI k) = some (nI 1, o') ∧ RO o' (g 0) (g 1) D := by
  intro f
  have hM := pow_le8 (g 1) h1
  induction f with
  | zero => intro k d r h2 h3; omega
  | succ f ih =>
    intro k d o h2 h3 h4 h5
    unfold J_X0_takeAll_b2
    by_cases h6 : k = g 7
    · subst h6
      rw [h4] at hD
      obtain rfl := Option.some.inj hD
      refine ⟨o, ?_, h5⟩
      simp (disch := first | omega | assumption) only [nq_neg, nq_fix, nq_sub1, nq_addN, nq_add, nq_mul, nq_sub, nq_ltN, nq_Nlt, nq_leN, nq_Nle, nq_lt, nq_le, nq_eq, nq_div, nq_pow, nq_tn, rd_W, wr_W, nS_eq, nS_ne, Option.bind_some, Option.bind_none, ↓reduceIte, Bool.false_eq_true, Nat.reduceEqDiff, Nat.reduceLT, Nat.reduceLeDiff, Nat.reduceAdd, Nat.reduceMul, Nat.reduceSub, Nat.reducePow, Nat.add_sub_cancel, Nat.zero_le, Nat.not_lt_zero, Nat.le_refl, Nat.lt_irrefl, l_0, l_1, l_2, l_3, l_4, l_5, l_6, l_7, l_8, l_9, l_10, l_13, l_14, l_16, l_20, l_24, l_26, l_30, l_31, l_32, l_48, l_57, l_59, l_63, l_96, l_97, l_100, l_122, l_200, l_255, l_256, l_270, l_400, l_429, l_526, l_780, l_800, l_926, l_1726, l_12082]
    · obtain ⟨d', h8⟩ := dRun_pre (g 7) D hD (k + 1) (by omega)
      have h9 := dRun_step h4 h8
      have hd := dRun_DW (show g 0 < 256 by omega) hM hzM k d h4
      have hc := hcc k (by omega)
      have e1 := k_at 800 wr k (by omega) (by omega)
      rw [hwr k (by omega)] at e1
      obtain ⟨o1, a, b⟩ := k_takeCode fu hf h5 h1 (by omega) hzM hd (gcd_ g k) (by unfold gcd_; omega)
      rw [h9] at a b
      obtain ⟨o', a', b'⟩ := ih (k + 1) d' o1 (by omega) (by omega) h8 b
      refine ⟨o', ?_, b'⟩
      simp (disch := first | omega | assumption) only [nq_neg, nq_fix, nq_sub1, nq_addN, nq_add, nq_mul, nq_sub, nq_ltN, nq_Nlt, nq_leN, nq_Nle, nq_lt, nq_le, nq_eq, nq_div, nq_pow, nq_tn, rd_W, wr_W, nS_eq, nS_ne, Option.bind_some, Option.bind_none, ↓reduceIte, Bool.false_eq_true, Nat.reduceEqDiff, Nat.reduceLT, Nat.reduceLeDiff, Nat.reduceAdd, Nat.reduceMul, Nat.reduceSub, Nat.reducePow, Nat.add_sub_cancel, Nat.zero_le, Nat.not_lt_zero, Nat.le_refl, Nat.lt_irrefl, l_0, l_1, l_2, l_3, l_4, l_5, l_6, l_7, l_8, l_9, l_10, l_13, l_14, l_16, l_20, l_24, l_26, l_30, l_31, l_32, l_48, l_57, l_59, l_63, l_96, l_97, l_100, l_122, l_200, l_255, l_256, l_270, l_400, l_429, l_526, l_780, l_800, l_926, l_1726, l_12082, show ¬ (g 7 ≤ k) by omega, e1, a]
      exact a'
theorem k_takeAll (fu : Nat) (hf : 1000 ≤ fu) {g : Nat → Nat} (h : GOOD g) (wr : Nat → Nat) (hwr : ∀ i, i < g 7 → wr i = gcd_ g i) {o : OS} {P0 L0 : Nat → Nat} (ho : RO o (g 0) (g 1) (g 0 + 1, P0, L0, 4294967295, [])) :
    ∃ o' n P L pv, J_X0_takeAll fu o 800 (nW wr) (nI (g 7)) = some (nI 1, o') ∧ RO o' (g 0) (g 1) (n, P, L, pv, syl g (g 13)) := by
  obtain ⟨hw, hsync, hcur⟩ := h
  have hs := SET_of hw
  unfold SET at hs
  have h7 := hw.1.2.2.2.1
  have hcc := hw.1.2.2.2.2.1
  obtain ⟨n, P, L, pv, a, b⟩ := hsync P0 L0
  obtain ⟨o', a', b'⟩ := k_ta_b fu (by omega) g (by omega) (by omega) (by omega) h7 hcc wr hwr P0 L0 a fu 0 _ o (by omega) (by omega) rfl ho
  exact ⟨o', n, P, L, pv, a', b'⟩
def OF (o : OS) : Prop := ∃ p l le nw od z wid n pv sy k, o = mkO (dN p l le nw od z wid n) (nI pv) (nW sy) (nI k)
theorem RO.OF {o : OS} {z wid : Nat} {d : DT} (h : RO o z wid d) : OF o := by
  obtain ⟨n, P, L, pv, out⟩ := d
  obtain ⟨p, l, le, nw, od, sy, rfl, _⟩ := h
  exact ⟨p, l, le, nw, od, z, wid, n, pv, sy, out.length, rfl⟩
theorem k_obegin (fu : Nat) (hf : 300 ≤ fu) {o : OS} (h : OF o) (p l le nw od : Nat → Nat) (z wid n : Nat) (hz : z < 256) (P0 L0 : Nat → Nat) :
    ∃ o', J_X0_begin fu o (dN p l le nw od z wid n) = some o' ∧ RO o' z wid (z + 1, P0, L0, 4294967295, []) := by
  obtain ⟨p1, l1, le1, nw1, od1, z1, wid1, n1, pv, sy, k, rfl⟩ := h
  obtain ⟨p', l', le', nw', a1, a2⟩ := k_dbegin fu hf p1 l1 le1 nw1 od1 z1 wid1 n1 z wid hz P0 L0
  refine ⟨mkO (dN p' l' le' nw' od1 z wid (z + 1)) (nI 4294967295) (nW sy) (nI 0), ?_, p', l', le', nw', od1, sy, rfl, a2, fun i hi => by simp only [List.length_nil] at hi; omega⟩
  unfold J_X0_begin
  simp only [d_prefix, d_lastSymbol, d_lengths, d_newest, d_older, d_alphabet, d_widest, d_count, mkD, dN, o_d, o_previous, o_symbols, o_count, mkO] at a1 ⊢
  rw [a1]
  rfl
