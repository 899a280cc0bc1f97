/-! the share as a double -/
theorem fp_fil2 : ∀ c, c < 257 → ∀ w, w < 9 → (FP.f2d (FP.fdiv (FP.i2f (nI c)) (FP.i2f (nI (2 ^ w))))) &&& 0x7fffffffffffffff ≤ 0x7ff0000000000000 := by decide +kernel
theorem t_fillShareN (fu : Nat) (hf : 20000 ≤ fu) (t : Int32) {ee : ES} {g : Nat → Nat} (h : RE ee g) (hg : GOOD g) :
    ∃ v, J_X7_fillShare ee = some v ∧ J_X8_fillShare t (nW g) = some (v, nI 0) ∧ vf_n64 (FP.f2d v) := by
  obtain ⟨p, l, le, nw, od, en, wr, wi, rfl, hr, hen, hww⟩ := h
  obtain ⟨⟨hz2, h0, hw3, h1, hz, h4⟩, wd, ud⟩ := id hg.1.1.1
  have a2 := k_room p l le nw od (g 0) (g 1) (g 4) h1
  have hp := pow_le8 (g 1) h1
  have hp0 := Nat.two_pow_pos (g 1)
  have e3 := fp_fil (g 4) (by omega) (g 1) (by omega)
  unfold J_X7_fillShare J_X8_fillShare
  refine ⟨FP.fdiv (FP.i2f (nI (g 4))) (FP.i2f (nI (2 ^ g 1))), ?_, ?_, fp_fil2 (g 4) (by omega) (g 1) (by omega)⟩
  · simp (disch := first | omega | assumption) only [e_d, e_policy, e_limit, e_phrase, e_encoded, e_encodedLength, e_written, e_widths, e_writtenLength, e_bits, e_clears, e_recentCodes, e_recentSymbols, e_recentBits, mkE, eN, nq_neg, nq_fix, nq_sub1, nq_addN, nq_add, nq_mul, nq_sub, nq_ltN, nq_Nlt, nq_leN, nq_Nle, nq_lt, nq_le, nq_eq, nq_div, nq_pow, nq_tn, rd_W, wr_W, nS_eq, nS_ne, Option.bind_some, Option.bind_none, ↓reduceIte, Bool.false_eq_true, Nat.reduceEqDiff, Nat.reduceLT, Nat.reduceLeDiff, Nat.reduceAdd, Nat.reduceMul, Nat.reduceSub, Nat.reducePow, Nat.add_sub_cancel, Nat.zero_le, Nat.not_lt_zero, Nat.le_refl, Nat.lt_irrefl, l_0, l_1, l_2, l_3, l_4, l_5, l_6, l_7, l_8, l_9, l_10, l_13, l_14, l_16, l_20, l_24, l_26, l_30, l_31, l_32, l_48, l_57, l_59, l_63, l_96, l_97, l_100, l_122, l_200, l_255, l_256, l_270, l_400, l_429, l_526, l_780, l_800, l_926, l_1726, l_12082, a2, show 0 < 2 ^ g 1 by omega]
    exact if_pos e3
  · simp (disch := first | omega | assumption) only [nq_neg, nq_fix, nq_sub1, nq_addN, nq_add, nq_mul, nq_sub, nq_ltN, nq_Nlt, nq_leN, nq_Nle, nq_lt, nq_le, nq_eq, nq_div, nq_pow, nq_tn, rd_W, wr_W, nS_eq, nS_ne, Option.bind_some, Option.bind_none, ↓reduceIte, Bool.false_eq_true, Nat.reduceEqDiff, Nat.reduceLT, Nat.reduceLeDiff, Nat.reduceAdd, Nat.reduceMul, Nat.reduceSub, Nat.reducePow, Nat.add_sub_cancel, Nat.zero_le, Nat.not_lt_zero, Nat.le_refl, Nat.lt_irrefl, l_0, l_1, l_2, l_3, l_4, l_5, l_6, l_7, l_8, l_9, l_10, l_13, l_14, l_16, l_20, l_24, l_26, l_30, l_31, l_32, l_48, l_57, l_59, l_63, l_96, l_97, l_100, l_122, l_200, l_255, l_256, l_270, l_400, l_429, l_526, l_780, l_800, l_926, l_1726, l_12082, m_mostCodes g h1]
    rw [if_pos e3]
