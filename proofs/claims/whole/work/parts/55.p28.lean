/-! the looks, both sides: bytes, ratios, the longest phrase -/
theorem t_byteCount (fu : Nat) (hf : 20000 ≤ fu) (t : Int32) {ee : ES} {g : Nat → Nat} (h : RE ee g) (hg : GOOD g) :
    ∃ v, J_X7_byteCount ee = some v ∧ J_X8_byteCount fu t (nW g) = some (v, nI 0) := by
  have e1 := m_allBits fu (by omega) g hg.1.1
  have hb : e_bits ee = nI (sm (gwd_ g) 0 (g 7)) := by obtain ⟨p, l, le, nw, od, en, wr, wi, rfl, _⟩ := h; rfl
  refine ⟨_, rfl, ?_⟩
  unfold J_X8_byteCount J_X8_bytes
  rw [e1, hb]
  rfl
def nzD : FP.Core.Datum → Bool
| .fin _ c _ => decide (c ≠ 0)
| _ => false
theorem fp_inf (s : Bool) : FP.Core.encode FP.Core.b64 (.inf s) % 9223372036854775808 ≤ 9218868437227405312 := by
  cases s <;> decide
theorem fp_fin (s : Bool) (c : Nat) (q : Int) (hc : c < 9007199254740992) (hq : q ≤ 971) : FP.Core.encode FP.Core.b64 (.fin s c q) % 9223372036854775808 ≤ 9218868437227405312 := by
  have ht : FP.Core.b64.tails = 4503599627370496 := by decide
  have he : FP.Core.b64.exps = 2048 := by decide
  have hm : FP.Core.b64.qmin = -1074 := by decide
  show (if c < FP.Core.b64.tails then FP.Core.assemble FP.Core.b64 s 0 c else FP.Core.assemble FP.Core.b64 s ((q - FP.Core.b64.qmin).toNat + 1) (c - FP.Core.b64.tails)) % _ ≤ _
  unfold FP.Core.assemble
  rw [ht, he, hm]
  have hs : s.toNat = 0 ∨ s.toNat = 1 := by cases s; exact .inl rfl; exact .inr rfl
  rcases hs with hs | hs <;> rw [hs] <;> split <;> omega
theorem fp_ratio (s : Bool) (c d : Nat) (e : Int) : FP.Core.encode FP.Core.b64 (FP.Core.roundRatio FP.Core.b64 s c d e) % 9223372036854775808 ≤ 9218868437227405312 := by
  have ht : FP.Core.b64.tails = 4503599627370496 := by decide
  have hM : FP.Core.b64.qmax = 971 := by decide
  have hm : FP.Core.b64.qmin = -1074 := by decide
  have hp : (2 : Nat) ^ FP.Core.b64.p = 9007199254740992 := by decide
  have hB : ∀ c q, c < 9007199254740992 → FP.Core.encode FP.Core.b64 (FP.Core.bound FP.Core.b64 s c q) % 9223372036854775808 ≤ 9218868437227405312 := by
    intro c q hc
    unfold FP.Core.bound
    rw [hM]
    split
    · exact fp_fin s c q hc (by assumption)
    · exact fp_inf s
  unfold FP.Core.roundRatio
  split
  · rw [hm]; exact fp_fin s 0 _ (by omega) (by omega)
  · unfold FP.Core.roundAt FP.Core.settle
    rw [hp, ht]
    split
    · exact hB _ _ (by assumption)
    · exact hB _ _ (by omega)
theorem fp_nn (x : Nat) (h : x % 9223372036854775808 ≤ 9218868437227405312) : (UInt64.ofNat x) &&& 0x7fffffffffffffff ≤ 0x7ff0000000000000 := by
  rw [UInt64.le_iff_toNat_le, UInt64.toNat_and, show (0x7fffffffffffffff : UInt64).toNat = 2 ^ 63 - 1 from by decide, show (0x7ff0000000000000 : UInt64).toNat = 9218868437227405312 from by decide, Nat.and_two_pow_sub_one_eq_mod, UInt64.toNat_ofNat']
  omega
theorem fp_dec (n : Nat) (h : n % 9223372036854775808 ≤ 9218868437227405312) : FP.Core.decode FP.Core.b64 n ≠ .nan := by
  have he : FP.Core.fieldE FP.Core.b64 n = n / 4503599627370496 % 2048 := rfl
  have ht : FP.Core.fieldT FP.Core.b64 n = n % 4503599627370496 := rfl
  have hx : FP.Core.b64.exps - 1 = 2047 := by decide
  unfold FP.Core.decode
  rw [he, ht, hx]
  split
  · split
    · exact FP.Core.Datum.noConfusion
    · exfalso; omega
  · split <;> exact FP.Core.Datum.noConfusion
theorem fp_i2d (a : Int32) : (FP.i2d a).toNat % 9223372036854775808 ≤ 9218868437227405312 := by
  show (UInt64.ofNat (FP.Core.encode FP.Core.b64 (FP.Core.round FP.Core.b64 (FP.Core.ofInt a.toInt)))).toNat % _ ≤ _
  rw [UInt64.toNat_ofNat']
  have h := fp_ratio (decide (a.toInt < 0)) a.toInt.natAbs 1 0
  have e : FP.Core.round FP.Core.b64 (FP.Core.ofInt a.toInt) = FP.Core.roundRatio FP.Core.b64 (decide (a.toInt < 0)) a.toInt.natAbs 1 0 := rfl
  rw [e]
  omega
set_option maxRecDepth 100000 in
theorem fp_nz : ∀ b, b < 401 → b = 0 ∨ nzD (FP.Core.decode FP.Core.b64 (FP.i2d (nI b)).toNat) = true := by decide +kernel
theorem fp_div (a : Int32) (b : Nat) (h0 : b ≠ 0) (h : b ≤ 400) : (FP.ddiv (FP.i2d a) (FP.i2d (nI b))) &&& 0x7fffffffffffffff ≤ 0x7ff0000000000000 := by
  have h1 := fp_dec _ (fp_i2d a)
  have h2 := (fp_nz b (by omega)).resolve_left h0
  show UInt64.ofNat (FP.Core.encode FP.Core.b64 (FP.Core.quotient FP.Core.b64 (FP.Core.decode FP.Core.b64 (FP.i2d a).toNat) (FP.Core.decode FP.Core.b64 (FP.i2d (nI b)).toNat))) &&& _ ≤ _
  refine fp_nn _ ?_
  generalize FP.Core.decode FP.Core.b64 (FP.i2d a).toNat = A at h1 ⊢
  generalize FP.Core.decode FP.Core.b64 (FP.i2d (nI b)).toNat = B at h2 ⊢
  cases B with
  | nan => cases h2
  | inf t => cases h2
  | fin t d r =>
    have hd : d ≠ 0 := of_decide_eq_true h2
    cases A with
    | nan => exact absurd rfl h1
    | inf s => exact fp_inf _
    | fin s c q =>
      show FP.Core.encode FP.Core.b64 (if d = 0 then (if c = 0 then .nan else .inf (s != t)) else FP.Core.roundRatio FP.Core.b64 (s != t) c d (q - r)) % _ ≤ _
      rw [if_neg hd]
      exact fp_ratio _ _ _ _
theorem t_bitsPerSymbol (fu : Nat) (hf : 20000 ≤ fu) (t : Int32) {ee : ES} {g : Nat → Nat} (h : RE ee g) (hg : GOOD g) :
    ∃ v, J_X7_bitsPerSymbol ee = some v ∧ J_X8_bitsPerSymbol fu t (nW g) = some (v, nI 0) := by
  obtain ⟨w, h5b, h50, h6, h7, hcov, hsy⟩ := (WB_iff g).mp hg.1
  have e1 := m_allBits fu (by omega) g hg.1.1
  have e2 := k_covered h hg
  have hb : e_bits ee = nI (sm (gwd_ g) 0 (g 7)) := by obtain ⟨p, l, le, nw, od, en, wr, wi, rfl, _⟩ := h; rfl
  unfold J_X7_bitsPerSymbol J_X8_bitsPerSymbol
  rw [e1, e2, hb]
  by_cases c : g 13 = 0
  · refine ⟨FP.dconst0, ?_, ?_⟩
    · simp (disch := first | omega | assumption) only [nq_neg, nq_fix, nq_sub1, nq_addN, nq_add, nq_mul, nq_sub, nq_ltN, nq_Nlt, nq_leN, nq_Nle, nq_lt, nq_le, nq_eq, nq_div, nq_pow, nq_tn, rd_W, wr_W, nS_eq, nS_ne, Option.bind_some, Option.bind_none, ↓reduceIte, Bool.false_eq_true, Nat.reduceEqDiff, Nat.reduceLT, Nat.reduceLeDiff, Nat.reduceAdd, Nat.reduceMul, Nat.reduceSub, Nat.reducePow, Nat.add_sub_cancel, Nat.zero_le, Nat.not_lt_zero, Nat.le_refl, Nat.lt_irrefl, l_0, l_1, l_2, l_3, l_4, l_5, l_6, l_7, l_8, l_9, l_10, l_13, l_14, l_16, l_20, l_24, l_26, l_30, l_31, l_32, l_48, l_57, l_59, l_63, l_96, l_97, l_100, l_122, l_200, l_255, l_256, l_270, l_400, l_429, l_526, l_780, l_800, l_926, l_1726, l_12082, c]
    · simp (disch := first | omega | assumption) only [nq_neg, nq_fix, nq_sub1, nq_addN, nq_add, nq_mul, nq_sub, nq_ltN, nq_Nlt, nq_leN, nq_Nle, nq_lt, nq_le, nq_eq, nq_div, nq_pow, nq_tn, rd_W, wr_W, nS_eq, nS_ne, Option.bind_some, Option.bind_none, ↓reduceIte, Bool.false_eq_true, Nat.reduceEqDiff, Nat.reduceLT, Nat.reduceLeDiff, Nat.reduceAdd, Nat.reduceMul, Nat.reduceSub, Nat.reducePow, Nat.add_sub_cancel, Nat.zero_le, Nat.not_lt_zero, Nat.le_refl, Nat.lt_irrefl, l_0, l_1, l_2, l_3, l_4, l_5, l_6, l_7, l_8, l_9, l_10, l_13, l_14, l_16, l_20, l_24, l_26, l_30, l_31, l_32, l_48, l_57, l_59, l_63, l_96, l_97, l_100, l_122, l_200, l_255, l_256, l_270, l_400, l_429, l_526, l_780, l_800, l_926, l_1726, l_12082, c]
  · have e3 := fp_div (nI (sm (gwd_ g) 0 (g 7))) (g 13) c (by omega)
    refine ⟨FP.ddiv (FP.i2d (nI (sm (gwd_ g) 0 (g 7)))) (FP.i2d (nI (g 13))), ?_, ?_⟩
    · simp (disch := first | omega | assumption) only [nq_neg, nq_fix, nq_sub1, nq_addN, nq_add, nq_mul, nq_sub, nq_ltN, nq_Nlt, nq_leN, nq_Nle, nq_lt, nq_le, nq_eq, nq_div, nq_pow, nq_tn, rd_W, wr_W, nS_eq, nS_ne, Option.bind_some, Option.bind_none, ↓reduceIte, Bool.false_eq_true, Nat.reduceEqDiff, Nat.reduceLT, Nat.reduceLeDiff, Nat.reduceAdd, Nat.reduceMul, Nat.reduceSub, Nat.reducePow, Nat.add_sub_cancel, Nat.zero_le, Nat.not_lt_zero, Nat.le_refl, Nat.lt_irrefl, l_0, l_1, l_2, l_3, l_4, l_5, l_6, l_7, l_8, l_9, l_10, l_13, l_14, l_16, l_20, l_24, l_26, l_30, l_31, l_32, l_48, l_57, l_59, l_63, l_96, l_97, l_100, l_122, l_200, l_255, l_256, l_270, l_400, l_429, l_526, l_780, l_800, l_926, l_1726, l_12082, show 0 < g 13 by omega]
      rw [if_pos e3]
    · simp (disch := first | omega | assumption) only [nq_neg, nq_fix, nq_sub1, nq_addN, nq_add, nq_mul, nq_sub, nq_ltN, nq_Nlt, nq_leN, nq_Nle, nq_lt, nq_le, nq_eq, nq_div, nq_pow, nq_tn, rd_W, wr_W, nS_eq, nS_ne, Option.bind_some, Option.bind_none, ↓reduceIte, Bool.false_eq_true, Nat.reduceEqDiff, Nat.reduceLT, Nat.reduceLeDiff, Nat.reduceAdd, Nat.reduceMul, Nat.reduceSub, Nat.reducePow, Nat.add_sub_cancel, Nat.zero_le, Nat.not_lt_zero, Nat.le_refl, Nat.lt_irrefl, l_0, l_1, l_2, l_3, l_4, l_5, l_6, l_7, l_8, l_9, l_10, l_13, l_14, l_16, l_20, l_24, l_26, l_30, l_31, l_32, l_48, l_57, l_59, l_63, l_96, l_97, l_100, l_122, l_200, l_255, l_256, l_270, l_400, l_429, l_526, l_780, l_800, l_926, l_1726, l_12082, c]
      rw [if_pos e3]
set_option maxRecDepth 100000 in
theorem fp_fil : ∀ c, c < 257 → ∀ w, w < 9 → (FP.fdiv (FP.i2f (nI c)) (FP.i2f (nI (2 ^ w)))) &&& 0x7fffffff ≤ 0x7f800000 := by decide +kernel
theorem t_fillShare (fu : Nat) (hf : 20000 ≤ fu) (t : Int32) {ee : ES} {g : Nat → Nat} (h : RE ee g) (hg : GOOD g) :
    ∃ v, J_X7_fillShare ee = some v ∧ J_X8_fillShare t (nW g) = some (v, nI 0) := by
  obtain ⟨p, l, le, nw, od, en, wr, wi, rfl, hr, hen, hww⟩ := h
  obtain ⟨⟨hz2, h0, hw3, h1, hz, h4⟩, wd, ud⟩ := id hg.1.1.1
  have a2 := k_room p l le nw od (g 0) (g 1) (g 4) h1
  have hp := pow_le8 (g 1) h1
  have hp0 := Nat.two_pow_pos (g 1)
  have e3 := fp_fil (g 4) (by omega) (g 1) (by omega)
  unfold J_X7_fillShare J_X8_fillShare
  refine ⟨FP.fdiv (FP.i2f (nI (g 4))) (FP.i2f (nI (2 ^ g 1))), ?_, ?_⟩
  · simp (disch := first | omega | assumption) only [e_d, e_policy, e_limit, e_phrase, e_encoded, e_encodedLength, e_written, e_widths, e_writtenLength, e_bits, e_clears, e_recentCodes, e_recentSymbols, e_recentBits, mkE, eN, nq_neg, nq_fix, nq_sub1, nq_addN, nq_add, nq_mul, nq_sub, nq_ltN, nq_Nlt, nq_leN, nq_Nle, nq_lt, nq_le, nq_eq, nq_div, nq_pow, nq_tn, rd_W, wr_W, nS_eq, nS_ne, Option.bind_some, Option.bind_none, ↓reduceIte, Bool.false_eq_true, Nat.reduceEqDiff, Nat.reduceLT, Nat.reduceLeDiff, Nat.reduceAdd, Nat.reduceMul, Nat.reduceSub, Nat.reducePow, Nat.add_sub_cancel, Nat.zero_le, Nat.not_lt_zero, Nat.le_refl, Nat.lt_irrefl, l_0, l_1, l_2, l_3, l_4, l_5, l_6, l_7, l_8, l_9, l_10, l_13, l_14, l_16, l_20, l_24, l_26, l_30, l_31, l_32, l_48, l_57, l_59, l_63, l_96, l_97, l_100, l_122, l_200, l_255, l_256, l_270, l_400, l_429, l_526, l_780, l_800, l_926, l_1726, l_12082, a2, show 0 < 2 ^ g 1 by omega]
    exact if_pos e3
  · simp (disch := first | omega | assumption) only [nq_neg, nq_fix, nq_sub1, nq_addN, nq_add, nq_mul, nq_sub, nq_ltN, nq_Nlt, nq_leN, nq_Nle, nq_lt, nq_le, nq_eq, nq_div, nq_pow, nq_tn, rd_W, wr_W, nS_eq, nS_ne, Option.bind_some, Option.bind_none, ↓reduceIte, Bool.false_eq_true, Nat.reduceEqDiff, Nat.reduceLT, Nat.reduceLeDiff, Nat.reduceAdd, Nat.reduceMul, Nat.reduceSub, Nat.reducePow, Nat.add_sub_cancel, Nat.zero_le, Nat.not_lt_zero, Nat.le_refl, Nat.lt_irrefl, l_0, l_1, l_2, l_3, l_4, l_5, l_6, l_7, l_8, l_9, l_10, l_13, l_14, l_16, l_20, l_24, l_26, l_30, l_31, l_32, l_48, l_57, l_59, l_63, l_96, l_97, l_100, l_122, l_200, l_255, l_256, l_270, l_400, l_429, l_526, l_780, l_800, l_926, l_1726, l_12082, m_mostCodes g h1]
    rw [if_pos e3]
theorem m_lp_b (fu : Nat) (hf : 20000 ≤ fu) (g : Nat → Nat) (h : DI g) (t : Int32) : ∀ n k, 1 ≤ k → k ≤ g 4 → g 4 < n + k →
    J_X8_longestPhrase_b10 fu (nW g) n t (nI (bst (fun c => (gph g c).length) k)) (nI (gph g (bst (fun c => (gph g c).length) k)).length) (nI k) = some (nI (bst (fun c => (gph g c).length) (g 4)), nI 0) := by
  intro n
  obtain ⟨⟨hz2, h0, hw3, h1, hz, h4⟩, wd, ud⟩ := id h
  induction n with
  | zero => intro k _ h2 h3; omega
  | succ n ih =>
    intro k hk1 hk2 hk3
    have hb := bst_lt (fun c => (gph g c).length) k (by omega)
    unfold J_X8_longestPhrase_b10
    by_cases h3 : k = g 4
    · subst h3
      simp (disch := first | omega | assumption) only [nq_neg, nq_fix, nq_sub1, nq_addN, nq_add, nq_mul, nq_sub, nq_ltN, nq_Nlt, nq_leN, nq_Nle, nq_lt, nq_le, nq_eq, nq_div, nq_pow, nq_tn, rd_W, wr_W, nS_eq, nS_ne, Option.bind_some, Option.bind_none, ↓reduceIte, Bool.false_eq_true, Nat.reduceEqDiff, Nat.reduceLT, Nat.reduceLeDiff, Nat.reduceAdd, Nat.reduceMul, Nat.reduceSub, Nat.reducePow, Nat.add_sub_cancel, Nat.zero_le, Nat.not_lt_zero, Nat.le_refl, Nat.lt_irrefl, l_0, l_1, l_2, l_3, l_4, l_5, l_6, l_7, l_8, l_9, l_10, l_13, l_14, l_16, l_20, l_24, l_26, l_30, l_31, l_32, l_48, l_57, l_59, l_63, l_96, l_97, l_100, l_122, l_200, l_255, l_256, l_270, l_400, l_429, l_526, l_780, l_800, l_926, l_1726, l_12082, m_told]
    · have e1 := m_lengthOf fu g h (by omega) k (by omega)
      have h5 : (gph g k).length ≤ k + 1 := ph_le wd k (by omega)
      have h6 : (gph g (bst (fun c => (gph g c).length) k)).length ≤ bst (fun c => (gph g c).length) k + 1 := ph_le wd _ (by omega)
      have h7 := ih (k + 1) (by omega) (by omega) (by omega)
      rw [show bst (fun c => (gph g c).length) (k + 1) = if (gph g (bst (fun c => (gph g c).length) k)).length < (gph g k).length then k else bst (fun c => (gph g c).length) k from rfl] at h7
      simp (disch := first | omega | assumption) only [nq_neg, nq_fix, nq_sub1, nq_addN, nq_add, nq_mul, nq_sub, nq_ltN, nq_Nlt, nq_leN, nq_Nle, nq_lt, nq_le, nq_eq, nq_div, nq_pow, nq_tn, rd_W, wr_W, nS_eq, nS_ne, Option.bind_some, Option.bind_none, ↓reduceIte, Bool.false_eq_true, Nat.reduceEqDiff, Nat.reduceLT, Nat.reduceLeDiff, Nat.reduceAdd, Nat.reduceMul, Nat.reduceSub, Nat.reducePow, Nat.add_sub_cancel, Nat.zero_le, Nat.not_lt_zero, Nat.le_refl, Nat.lt_irrefl, l_0, l_1, l_2, l_3, l_4, l_5, l_6, l_7, l_8, l_9, l_10, l_13, l_14, l_16, l_20, l_24, l_26, l_30, l_31, l_32, l_48, l_57, l_59, l_63, l_96, l_97, l_100, l_122, l_200, l_255, l_256, l_270, l_400, l_429, l_526, l_780, l_800, l_926, l_1726, l_12082, show ¬ (g 4 ≤ k) by omega, e1]
      by_cases h8 : (gph g (bst (fun c => (gph g c).length) k)).length < (gph g k).length
      · rw [if_pos h8] at h7
        rw [if_neg (by omega)]
        exact h7
      · rw [if_neg h8] at h7
        rw [if_pos (by omega)]
        exact h7
theorem t_longestPhrase (fu : Nat) (hf : 20000 ≤ fu) (t : Int32) {ee : ES} {g : Nat → Nat} (h : RE ee g) (hg : GOOD g) :
    ∃ v, J_X7_longestPhrase fu ee = some v ∧ J_X8_longestPhrase fu t (nW g) = some (v, nI 0) := by
  obtain ⟨p, l, le, nw, od, en, wr, wi, rfl, hr, hen, hww⟩ := h
  have hd := hg.1.1.1
  obtain ⟨⟨hz2, h0, hw3, h1, hz, h4⟩, wd, ud⟩ := id hd
  have e1 := k_firstLongest fu (by omega) p l le nw od (g 0) (g 1) (g 4) (gP g) (gL g) hr wd h4 (by omega)
  have e2 := m_lengthOf fu g hd (by omega) 0 (by omega)
  have e3 := m_lp_b fu hf g hd t fu 1 (by omega) (by omega) (by omega)
  have hb1 : bst (fun c => (gph g c).length) 1 = 0 := by show (if _ then 0 else 0) = 0; exact ite_self _
  rw [hb1] at e3
  refine ⟨nI (bst (fun c => (gph g c).length) (g 4)), ?_, ?_⟩
  · unfold J_X7_longestPhrase
    show (J_X1_firstLongest fu (dN p l le nw od (g 0) (g 1) (g 4))).bind _ = _
    rw [e1]
    rfl
  · unfold J_X8_longestPhrase
    simp only [l_0, l_1]
    rw [e2]
    exact e3
