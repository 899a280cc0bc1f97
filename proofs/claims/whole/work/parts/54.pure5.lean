/-! the acts, both sides: flush, restart, encode, settings, undo -/
def ST (ee : ES) (hh : HS) (g u : Nat → Nat) (m : Nat) (sl kp : Nat → Nat) : Prop := RE ee g ∧ GOOD g ∧ HR hh u m sl kp
theorem E7_ka (a g : Nat → Nat) : E7 (nC a g 0 0 1726) g := fun j hj => by
  have := nC_in a g 0 0 1726 j hj
  rw [Nat.zero_add] at this
  exact this
theorem HR.le {hh : HS} {u : Nat → Nat} {m : Nat} {sl kp : Nat → Nat} (h : HR hh u m sl kp) : m ≤ 8 := by
  obtain ⟨st, sv, nx, rfl, hnx, hm, _⟩ := h
  exact hm
theorem t_flush (fu : Nat) (hf : 20000 ≤ fu) (t : Int32) {ee : ES} {hh : HS} {g u : Nat → Nat} {m : Nat} {sl kp : Nat → Nat} (h : ST ee hh g u m sl kp) (a : Nat → Nat) :
    ∃ v ee' hh' g' a' u' m', J_X7_flush fu ee hh = some (v, ee', hh') ∧ J_X8_flush fu t (nW g) (nW a) (nW u) (nI m) = some (v, nI 0, nW g', nW a', nW u', nI m') ∧ ST ee' hh' g' u' m' sl kp := by
  obtain ⟨he, hg, hh0⟩ := h
  obtain ⟨hh', b1, b2⟩ := k_remember hh0 he hg (E7_ka a g)
  obtain ⟨ee', c1, c2⟩ := k_end fu (by omega) he hg.1
  have hm := hh0.le
  refine ⟨nI (if g 5 = 0 then 0 else 2), ee', hh', if g 5 = 0 then g else gEA g, nC a g 0 0 1726, chU u (nC a g 0 0 1726) m, chK m, ?_, ?_, c2, ?_, b2⟩
  · unfold J_X7_flush
    rw [b1]
    simp only [Option.bind_some, c1]
  · unfold J_X8_flush J_X8_flush_b25
    rw [m_keepsAside fu hf]
    have h54 := ((WB_iff g).mp hg.1).2.1
    have h44 := hg.1.1.1.1.2.2.2.2.2
    have h7 := hg.1.1.2.2.2.1
    by_cases c : g 5 = 0
    · simp (disch := first | omega | assumption) only [nq_neg, nq_fix, nq_sub1, nq_addN, nq_add, nq_mul, nq_sub, nq_ltN, nq_Nlt, nq_leN, nq_Nle, nq_lt, nq_le, nq_eq, nq_div, nq_pow, nq_tn, rd_W, wr_W, nS_eq, nS_ne, Option.bind_some, Option.bind_none, ↓reduceIte, Bool.false_eq_true, Nat.reduceEqDiff, Nat.reduceLT, Nat.reduceLeDiff, Nat.reduceAdd, Nat.reduceMul, Nat.reduceSub, Nat.reducePow, Nat.add_sub_cancel, Nat.zero_le, Nat.not_lt_zero, Nat.le_refl, Nat.lt_irrefl, l_0, l_1, l_2, l_3, l_4, l_5, l_6, l_7, l_8, l_9, l_10, l_13, l_14, l_16, l_20, l_24, l_26, l_30, l_31, l_32, l_48, l_57, l_59, l_63, l_96, l_97, l_100, l_122, l_200, l_255, l_256, l_270, l_400, l_429, l_526, l_780, l_800, l_926, l_1726, l_12082, c, m_changed fu hf _ u t _ m hm, Nat.sub_self]
    · have e7 := (gEA_at c).2.2.2.2.2.2.2.1
      simp (disch := first | omega | assumption) only [nq_neg, nq_fix, nq_sub1, nq_addN, nq_add, nq_mul, nq_sub, nq_ltN, nq_Nlt, nq_leN, nq_Nle, nq_lt, nq_le, nq_eq, nq_div, nq_pow, nq_tn, rd_W, wr_W, nS_eq, nS_ne, Option.bind_some, Option.bind_none, ↓reduceIte, Bool.false_eq_true, Nat.reduceEqDiff, Nat.reduceLT, Nat.reduceLeDiff, Nat.reduceAdd, Nat.reduceMul, Nat.reduceSub, Nat.reducePow, Nat.add_sub_cancel, Nat.zero_le, Nat.not_lt_zero, Nat.le_refl, Nat.lt_irrefl, l_0, l_1, l_2, l_3, l_4, l_5, l_6, l_7, l_8, l_9, l_10, l_13, l_14, l_16, l_20, l_24, l_26, l_30, l_31, l_32, l_48, l_57, l_59, l_63, l_96, l_97, l_100, l_122, l_200, l_255, l_256, l_270, l_400, l_429, l_526, l_780, l_800, l_926, l_1726, l_12082, c, show ¬ (g 5 ≤ 0) by omega, m_endsAll fu hf hg.1 c, e7, Nat.add_sub_cancel_left, m_changed fu hf _ u t _ m hm]
  · by_cases c : g 5 = 0
    · rw [if_pos c]; exact hg
    · rw [if_neg c]; exact GOOD_EA hg c
theorem t_restart (fu : Nat) (hf : 20000 ≤ fu) (t : Int32) {ee : ES} {hh : HS} {g u : Nat → Nat} {m : Nat} {sl kp : Nat → Nat} (h : ST ee hh g u m sl kp) (a : Nat → Nat) :
    ∃ v ee' hh' g' a' u' m', J_X7_restart fu ee hh = some (v, ee', hh') ∧ J_X8_restart fu t (nW g) (nW a) (nW u) (nI m) = some (v, nI 0, nW g', nW a', nW u', nI m') ∧ ST ee' hh' g' u' m' sl kp := by
  obtain ⟨he, hg, hh0⟩ := h
  obtain ⟨hh', b1, b2⟩ := k_remember hh0 he hg (E7_ka a g)
  obtain ⟨ee', c1, c2⟩ := k_restart fu (by omega) he hg.1
  have hm := hh0.le
  have hwl : e_writtenLength ee = nI (g 7) := by obtain ⟨p, l, le, nw, od, en, wr, wi, rfl, _⟩ := he; rfl
  refine ⟨nI (g 7), ee', hh', gSt g, nC a g 0 0 1726, chU u (nC a g 0 0 1726) m, chK m, ?_, ?_, c2, GOOD_St hg.1, b2⟩
  · unfold J_X7_restart
    rw [b1]
    simp only [Option.bind_some, c1, hwl]
  · unfold J_X8_restart
    rw [m_keepsAside fu hf]
    simp (disch := first | omega | assumption) only [nq_neg, nq_fix, nq_sub1, nq_addN, nq_add, nq_mul, nq_sub, nq_ltN, nq_Nlt, nq_leN, nq_Nle, nq_lt, nq_le, nq_eq, nq_div, nq_pow, nq_tn, rd_W, wr_W, nS_eq, nS_ne, Option.bind_some, Option.bind_none, ↓reduceIte, Bool.false_eq_true, Nat.reduceEqDiff, Nat.reduceLT, Nat.reduceLeDiff, Nat.reduceAdd, Nat.reduceMul, Nat.reduceSub, Nat.reducePow, Nat.add_sub_cancel, Nat.zero_le, Nat.not_lt_zero, Nat.le_refl, Nat.lt_irrefl, l_0, l_1, l_2, l_3, l_4, l_5, l_6, l_7, l_8, l_9, l_10, l_13, l_14, l_16, l_20, l_24, l_26, l_30, l_31, l_32, l_48, l_57, l_59, l_63, l_96, l_97, l_100, l_122, l_200, l_255, l_256, l_270, l_400, l_429, l_526, l_780, l_800, l_926, l_1726, l_12082, m_starts, m_changed fu hf _ u t _ m hm]
theorem tr_l {α β : Type} (r : α) (k : α → Option β) (kx : String → Option β) : j_try (Sum.inl r) k kx = k r := rfl
theorem tr_r {α β : Type} (E : String) (k : α → Option β) (kx : String → Option β) : j_try (Sum.inr E) k kx = kx E := rfl
theorem m_isSymbol (g : Nat → Nat) (h0 : g 0 ≤ 26) (h2 : 1 ≤ g 0) (s : Nat) (hs : s < 2147483648) : J_X8_isSymbol (nW g) (nI s) = some (nI (if s < g 0 then 1 else 0)) := by
  unfold J_X8_isSymbol
  simp (disch := first | omega | assumption) only [nq_neg, nq_fix, nq_sub1, nq_addN, nq_add, nq_mul, nq_sub, nq_ltN, nq_Nlt, nq_leN, nq_Nle, nq_lt, nq_le, nq_eq, nq_div, nq_pow, nq_tn, rd_W, wr_W, nS_eq, nS_ne, Option.bind_some, Option.bind_none, ↓reduceIte, Bool.false_eq_true, Nat.reduceEqDiff, Nat.reduceLT, Nat.reduceLeDiff, Nat.reduceAdd, Nat.reduceMul, Nat.reduceSub, Nat.reducePow, Nat.add_sub_cancel, Nat.zero_le, Nat.not_lt_zero, Nat.le_refl, Nat.lt_irrefl, l_0, l_1, l_2, l_3, l_4, l_5, l_6, l_7, l_8, l_9, l_10, l_13, l_14, l_16, l_20, l_24, l_26, l_30, l_31, l_32, l_48, l_57, l_59, l_63, l_96, l_97, l_100, l_122, l_200, l_255, l_256, l_270, l_400, l_429, l_526, l_780, l_800, l_926, l_1726, l_12082, true_and, m_in s 0 (g 0 - 1) hs (by omega) (by omega)]
  by_cases c : s < g 0
  · rw [if_pos (show s ≤ g 0 - 1 by omega), if_pos c]
    exact if_pos (and1 1 (by omega))
  · rw [if_neg (show ¬ (s ≤ g 0 - 1) by omega), if_neg c]
    exact if_pos (and1 0 (by omega))
theorem m_isSymbolN (g : Nat → Nat) (x : Int32) (h : x < 0) : J_X8_isSymbol (nW g) x = some (nI 0) := by
  unfold J_X8_isSymbol
  simp (disch := first | omega | assumption) only [nq_neg, nq_fix, nq_sub1, nq_addN, nq_add, nq_mul, nq_sub, nq_ltN, nq_Nlt, nq_leN, nq_Nle, nq_lt, nq_le, nq_eq, nq_div, nq_pow, nq_tn, rd_W, wr_W, nS_eq, nS_ne, Option.bind_some, Option.bind_none, ↓reduceIte, Bool.false_eq_true, Nat.reduceEqDiff, Nat.reduceLT, Nat.reduceLeDiff, Nat.reduceAdd, Nat.reduceMul, Nat.reduceSub, Nat.reducePow, Nat.add_sub_cancel, Nat.zero_le, Nat.not_lt_zero, Nat.le_refl, Nat.lt_irrefl, l_0, l_1, l_2, l_3, l_4, l_5, l_6, l_7, l_8, l_9, l_10, l_13, l_14, l_16, l_20, l_24, l_26, l_30, l_31, l_32, l_48, l_57, l_59, l_63, l_96, l_97, l_100, l_122, l_200, l_255, l_256, l_270, l_400, l_429, l_526, l_780, l_800, l_926, l_1726, l_12082, m_inNeg x _ h]
  exact if_pos (and1 0 (by omega))
theorem t_encode (fu : Nat) (hf : 20000 ≤ fu) (t : Int32) {ee : ES} {hh : HS} {g u : Nat → Nat} {m : Nat} {sl kp : Nat → Nat} (h : ST ee hh g u m sl kp) (a : Nat → Nat) (f_tape f_dec : Nat → Int32) (oo : OS) (tt : TS) (rr : RS) (sw : SS) (x : Int32) :
    (∃ v ee' hh' g' a' u' m', J_X7_encode fu f_tape f_dec ee oo tt rr sw hh x = some (.inl v, ee', hh') ∧ J_X8_encode fu t (nW g) (nW a) (nW u) (nI m) x = some (v, nI 0, nW g', nW a', nW u', nI m') ∧ ST ee' hh' g' u' m' sl kp) ∨
    (J_X7_encode fu f_tape f_dec ee oo tt rr sw hh x = some (.inr "java/lang/IllegalArgumentException", ee, hh) ∧ J_X8_encode fu t (nW g) (nW a) (nW u) (nI m) x = some (nI 0, nI 1, nW g, nW a, nW u, nI m)) ∨
    (J_X7_encode fu f_tape f_dec ee oo tt rr sw hh x = some (.inr "java/lang/IllegalStateException", ee, hh) ∧ J_X8_encode fu t (nW g) (nW a) (nW u) (nI m) x = some (nI 0, nI 2, nW g, nW a, nW u, nI m)) := by
  obtain ⟨he, hg, hh0⟩ := h
  have hm := hh0.le
  have hs := SET_of hg.1
  unfold SET at hs
  have h6 := ((WB_iff g).mp hg.1).2.2.2.1
  have h7 := hg.1.1.2.2.2.1
  have hda : d_alphabet (e_d ee) = nI (g 0) := by obtain ⟨p, l, le, nw, od, en, wr, wi, rfl, _⟩ := he; rfl
  have hel : e_encodedLength ee = nI (g 6) := by obtain ⟨p, l, le, nw, od, en, wr, wi, rfl, _⟩ := he; rfl
  rcases cases32 x with hx | ⟨s, hx, rfl⟩
  · refine .inr (.inl ⟨?_, ?_⟩)
    · unfold J_X7_encode J_X7_requireSymbol J_X7_isSymbol
      rw [if_pos hx]
      rfl
    · unfold J_X8_encode
      rw [m_isSymbolN g x hx]
      rfl
  · have hq : J_X7_isSymbol ee (nI s) = some (nI (if s < g 0 then 1 else 0)) := by
      unfold J_X7_isSymbol
      rw [hda]
      simp (disch := first | omega | assumption) only [nq_neg, nq_fix, nq_sub1, nq_addN, nq_add, nq_mul, nq_sub, nq_ltN, nq_Nlt, nq_leN, nq_Nle, nq_lt, nq_le, nq_eq, nq_div, nq_pow, nq_tn, rd_W, wr_W, nS_eq, nS_ne, Option.bind_some, Option.bind_none, ↓reduceIte, Bool.false_eq_true, Nat.reduceEqDiff, Nat.reduceLT, Nat.reduceLeDiff, Nat.reduceAdd, Nat.reduceMul, Nat.reduceSub, Nat.reducePow, Nat.add_sub_cancel, Nat.zero_le, Nat.not_lt_zero, Nat.le_refl, Nat.lt_irrefl, l_0, l_1, l_2, l_3, l_4, l_5, l_6, l_7, l_8, l_9, l_10, l_13, l_14, l_16, l_20, l_24, l_26, l_30, l_31, l_32, l_48, l_57, l_59, l_63, l_96, l_97, l_100, l_122, l_200, l_255, l_256, l_270, l_400, l_429, l_526, l_780, l_800, l_926, l_1726, l_12082]
      by_cases c : s < g 0
      · rw [if_neg (by omega), if_pos c]
      · rw [if_pos (by omega), if_neg c]
    unfold J_X7_encode J_X7_requireSymbol J_X8_encode
    rw [hq, m_isSymbol g (by omega) (by omega) s hx]
    by_cases c : s < g 0
    · rw [if_pos c]
      by_cases c6 : g 6 < 400
      · obtain ⟨hh', b1, b2⟩ := k_remember hh0 he hg (E7_ka a g)
        obtain ⟨ee', c1, c2⟩ := k_take fu (by omega) he hg.1 c6 c
        have hw := WB_En hg.1 c6 c
        have h7' : gEn g s 7 ≤ 800 := hw.1.1.2.2.2.1
        have h77 : g 7 ≤ gEn g s 7 := by
          rw [gEn_eq]
          have t7 := gS_at g s 7 (by omega) (by omega)
          by_cases d1 : g 5 = 0
          · rw [if_pos d1, nS_ne _ _ _ _ (by omega)]; omega
          · rw [if_neg d1]
            by_cases d2 : gk g (g 5 - 1) s = 4294967295
            · have m1 := gS_MB hg.1.1 c6 s
              rw [if_pos d2, (gEP_at (gS g s) (g 5 - 1) s m1.2.1 m1.1.1.2.2.2.1).2.1]; omega
            · rw [if_neg d2, nS_ne _ _ _ _ (by omega)]; omega
        refine .inl ⟨nI (gEn g s 7 - g 7), ee', hh', gEn g s, nC a g 0 0 1726, chU u (nC a g 0 0 1726) m, chK m, ?_, ?_, c2, ⟨hw.1, SY_En hg.1 hg.2 c6 c⟩, b2⟩
        · rw [hel]
          simp (disch := first | omega | assumption) only [nq_neg, nq_fix, nq_sub1, nq_addN, nq_add, nq_mul, nq_sub, nq_ltN, nq_Nlt, nq_leN, nq_Nle, nq_lt, nq_le, nq_eq, nq_div, nq_pow, nq_tn, rd_W, wr_W, nS_eq, nS_ne, Option.bind_some, Option.bind_none, ↓reduceIte, Bool.false_eq_true, Nat.reduceEqDiff, Nat.reduceLT, Nat.reduceLeDiff, Nat.reduceAdd, Nat.reduceMul, Nat.reduceSub, Nat.reducePow, Nat.add_sub_cancel, Nat.zero_le, Nat.not_lt_zero, Nat.le_refl, Nat.lt_irrefl, l_0, l_1, l_2, l_3, l_4, l_5, l_6, l_7, l_8, l_9, l_10, l_13, l_14, l_16, l_20, l_24, l_26, l_30, l_31, l_32, l_48, l_57, l_59, l_63, l_96, l_97, l_100, l_122, l_200, l_255, l_256, l_270, l_400, l_429, l_526, l_780, l_800, l_926, l_1726, l_12082, tr_l, c6, b1, c1]
        · simp (disch := first | omega | assumption) only [nq_neg, nq_fix, nq_sub1, nq_addN, nq_add, nq_mul, nq_sub, nq_ltN, nq_Nlt, nq_leN, nq_Nle, nq_lt, nq_le, nq_eq, nq_div, nq_pow, nq_tn, rd_W, wr_W, nS_eq, nS_ne, Option.bind_some, Option.bind_none, ↓reduceIte, Bool.false_eq_true, Nat.reduceEqDiff, Nat.reduceLT, Nat.reduceLeDiff, Nat.reduceAdd, Nat.reduceMul, Nat.reduceSub, Nat.reducePow, Nat.add_sub_cancel, Nat.zero_le, Nat.not_lt_zero, Nat.le_refl, Nat.lt_irrefl, l_0, l_1, l_2, l_3, l_4, l_5, l_6, l_7, l_8, l_9, l_10, l_13, l_14, l_16, l_20, l_24, l_26, l_30, l_31, l_32, l_48, l_57, l_59, l_63, l_96, l_97, l_100, l_122, l_200, l_255, l_256, l_270, l_400, l_429, l_526, l_780, l_800, l_926, l_1726, l_12082, show ¬ (g 6 = 400) by omega, m_keepsAside fu hf, m_encodes fu (by omega) g hg.1 c6 s c, m_changed fu hf _ u t _ m hm]
      · refine .inr (.inr ⟨?_, ?_⟩)
        · rw [hel]
          simp (disch := first | omega | assumption) only [nq_neg, nq_fix, nq_sub1, nq_addN, nq_add, nq_mul, nq_sub, nq_ltN, nq_Nlt, nq_leN, nq_Nle, nq_lt, nq_le, nq_eq, nq_div, nq_pow, nq_tn, rd_W, wr_W, nS_eq, nS_ne, Option.bind_some, Option.bind_none, ↓reduceIte, Bool.false_eq_true, Nat.reduceEqDiff, Nat.reduceLT, Nat.reduceLeDiff, Nat.reduceAdd, Nat.reduceMul, Nat.reduceSub, Nat.reducePow, Nat.add_sub_cancel, Nat.zero_le, Nat.not_lt_zero, Nat.le_refl, Nat.lt_irrefl, l_0, l_1, l_2, l_3, l_4, l_5, l_6, l_7, l_8, l_9, l_10, l_13, l_14, l_16, l_20, l_24, l_26, l_30, l_31, l_32, l_48, l_57, l_59, l_63, l_96, l_97, l_100, l_122, l_200, l_255, l_256, l_270, l_400, l_429, l_526, l_780, l_800, l_926, l_1726, l_12082, tr_l, c6]
        · simp (disch := first | omega | assumption) only [nq_neg, nq_fix, nq_sub1, nq_addN, nq_add, nq_mul, nq_sub, nq_ltN, nq_Nlt, nq_leN, nq_Nle, nq_lt, nq_le, nq_eq, nq_div, nq_pow, nq_tn, rd_W, wr_W, nS_eq, nS_ne, Option.bind_some, Option.bind_none, ↓reduceIte, Bool.false_eq_true, Nat.reduceEqDiff, Nat.reduceLT, Nat.reduceLeDiff, Nat.reduceAdd, Nat.reduceMul, Nat.reduceSub, Nat.reducePow, Nat.add_sub_cancel, Nat.zero_le, Nat.not_lt_zero, Nat.le_refl, Nat.lt_irrefl, l_0, l_1, l_2, l_3, l_4, l_5, l_6, l_7, l_8, l_9, l_10, l_13, l_14, l_16, l_20, l_24, l_26, l_30, l_31, l_32, l_48, l_57, l_59, l_63, l_96, l_97, l_100, l_122, l_200, l_255, l_256, l_270, l_400, l_429, l_526, l_780, l_800, l_926, l_1726, l_12082, show g 6 = 400 by omega, m_throwing]
    · rw [if_neg c]
      exact .inr (.inl ⟨rfl, rfl⟩)
/-! the acts, both sides: settings, undo, saved states -/
theorem t_undo (fu : Nat) (hf : 20000 ≤ fu) (t : Int32) {ee : ES} {hh : HS} {g u : Nat → Nat} {m : Nat} {sl kp : Nat → Nat} (h : ST ee hh g u m sl kp) :
    (∃ v ee' hh' g' m', J_X7_undo ee hh = some (.inl v, ee', hh') ∧ J_X8_undo fu t (nW g) (nW u) (nI m) = some (v, nI 0, nW g', nI m') ∧ ST ee' hh' g' u m' sl kp) ∨
    (J_X7_undo ee hh = some (.inr "java/lang/IllegalStateException", ee, hh) ∧ J_X8_undo fu t (nW g) (nW u) (nI m) = some (nI 0, nI 1, nW g, nI m)) := by
  obtain ⟨he, hg, hh0⟩ := h
  have hm := hh0.le
  have hun : h_undoCount hh = nI m := by obtain ⟨st, sv, nx, rfl, _⟩ := hh0; rfl
  rw [m_undo fu hf g u t m hm]
  unfold J_X7_undo
  rw [hun]
  by_cases c : m = 0
  · subst c
    exact .inr ⟨rfl, by rw [if_pos rfl]⟩
  · obtain ⟨hh', ee', b1, b2, b3, b4⟩ := k_stepBack hh0 c (RQ.EF he)
    have hun' : h_undoCount hh' = nI (m - 1) := by obtain ⟨st, sv, nx, rfl, _⟩ := b2; rfl
    have hx : E7 (nC g u 0 (1726 * (m - 1)) 1726) (rw_ u (m - 1)) := fun j hj => by
      have := nC_in g u 0 (1726 * (m - 1)) 1726 j hj
      rw [Nat.zero_add] at this
      exact this
    obtain ⟨r1, r2⟩ := RE.E7 ⟨b3, b4⟩ hx
    refine .inl ⟨nI (m - 1), ee', hh', nC g u 0 (1726 * (m - 1)) 1726, m - 1, ?_, by rw [if_neg c], r1, r2, b2⟩
    simp (disch := first | omega | assumption) only [nq_neg, nq_fix, nq_sub1, nq_addN, nq_add, nq_mul, nq_sub, nq_ltN, nq_Nlt, nq_leN, nq_Nle, nq_lt, nq_le, nq_eq, nq_div, nq_pow, nq_tn, rd_W, wr_W, nS_eq, nS_ne, Option.bind_some, Option.bind_none, ↓reduceIte, Bool.false_eq_true, Nat.reduceEqDiff, Nat.reduceLT, Nat.reduceLeDiff, Nat.reduceAdd, Nat.reduceMul, Nat.reduceSub, Nat.reducePow, Nat.add_sub_cancel, Nat.zero_le, Nat.not_lt_zero, Nat.le_refl, Nat.lt_irrefl, l_0, l_1, l_2, l_3, l_4, l_5, l_6, l_7, l_8, l_9, l_10, l_13, l_14, l_16, l_20, l_24, l_26, l_30, l_31, l_32, l_48, l_57, l_59, l_63, l_96, l_97, l_100, l_122, l_200, l_255, l_256, l_270, l_400, l_429, l_526, l_780, l_800, l_926, l_1726, l_12082, show 0 < m by omega, b1, hun']
theorem cls32 (x : Int32) (n : Nat) (hn : n < 2147483648) : x < 0 ∨ (∃ p, p < n ∧ x = nI p) ∨ (∃ p, n ≤ p ∧ p < 2147483648 ∧ x = nI p) := by
  rcases cases32 x with h | ⟨p, hp, rfl⟩
  · exact .inl h
  · by_cases c : p < n
    · exact .inr (.inl ⟨p, c, rfl⟩)
    · exact .inr (.inr ⟨p, by omega, hp, rfl⟩)
theorem k_reqSlot (x : Int32) : (∃ p, p < 2 ∧ x = nI p ∧ J_X7_requireSlot x = some (.inl ())) ∨ (J_X7_requireSlot x = some (.inr "java/lang/IllegalArgumentException") ∧ J_X8_isSlot x = some (nI 0)) := by
  unfold J_X7_requireSlot J_X7_requireSlot_b9
  rcases cls32 x 2 (by omega) with h | ⟨p, hp, rfl⟩ | ⟨p, h1, h2, rfl⟩
  · exact .inr ⟨if_pos h, m_isSlotN x h⟩
  · refine .inl ⟨p, hp, rfl, ?_⟩
    simp (disch := first | omega | assumption) only [nq_neg, nq_fix, nq_sub1, nq_addN, nq_add, nq_mul, nq_sub, nq_ltN, nq_Nlt, nq_leN, nq_Nle, nq_lt, nq_le, nq_eq, nq_div, nq_pow, nq_tn, rd_W, wr_W, nS_eq, nS_ne, Option.bind_some, Option.bind_none, ↓reduceIte, Bool.false_eq_true, Nat.reduceEqDiff, Nat.reduceLT, Nat.reduceLeDiff, Nat.reduceAdd, Nat.reduceMul, Nat.reduceSub, Nat.reducePow, Nat.add_sub_cancel, Nat.zero_le, Nat.not_lt_zero, Nat.le_refl, Nat.lt_irrefl, l_0, l_1, l_2, l_3, l_4, l_5, l_6, l_7, l_8, l_9, l_10, l_13, l_14, l_16, l_20, l_24, l_26, l_30, l_31, l_32, l_48, l_57, l_59, l_63, l_96, l_97, l_100, l_122, l_200, l_255, l_256, l_270, l_400, l_429, l_526, l_780, l_800, l_926, l_1726, l_12082, hp]
  · refine .inr ⟨?_, by rw [m_isSlot p h2, if_neg (by omega)]⟩
    simp (disch := first | omega | assumption) only [nq_neg, nq_fix, nq_sub1, nq_addN, nq_add, nq_mul, nq_sub, nq_ltN, nq_Nlt, nq_leN, nq_Nle, nq_lt, nq_le, nq_eq, nq_div, nq_pow, nq_tn, rd_W, wr_W, nS_eq, nS_ne, Option.bind_some, Option.bind_none, ↓reduceIte, Bool.false_eq_true, Nat.reduceEqDiff, Nat.reduceLT, Nat.reduceLeDiff, Nat.reduceAdd, Nat.reduceMul, Nat.reduceSub, Nat.reducePow, Nat.add_sub_cancel, Nat.zero_le, Nat.not_lt_zero, Nat.le_refl, Nat.lt_irrefl, l_0, l_1, l_2, l_3, l_4, l_5, l_6, l_7, l_8, l_9, l_10, l_13, l_14, l_16, l_20, l_24, l_26, l_30, l_31, l_32, l_48, l_57, l_59, l_63, l_96, l_97, l_100, l_122, l_200, l_255, l_256, l_270, l_400, l_429, l_526, l_780, l_800, l_926, l_1726, l_12082, show ¬ (p < 2) by omega]
theorem t_save (fu : Nat) (hf : 20000 ≤ fu) (t : Int32) {ee : ES} {hh : HS} {g u : Nat → Nat} {m : Nat} {sl kp : Nat → Nat} (h : ST ee hh g u m sl kp) (x : Int32) :
    (∃ hh' sl' kp', J_X7_save ee hh x = some (.inl (), hh') ∧ J_X8_save fu t (nW g) (nW sl) (nW kp) x = some (nI 0, nW sl', nW kp') ∧ ST ee hh' g u m sl' kp') ∨
    (J_X7_save ee hh x = some (.inr "java/lang/IllegalArgumentException", hh) ∧ J_X8_save fu t (nW g) (nW sl) (nW kp) x = some (nI 1, nW sl, nW kp)) := by
  obtain ⟨he, hg, hh0⟩ := h
  unfold J_X7_save
  rcases k_reqSlot x with ⟨p, hp, rfl, hq⟩ | ⟨hq, hs⟩
  · obtain ⟨hh', b1, b2⟩ := k_saveIn hh0 he hg p hp
    refine .inl ⟨hh', _, _, ?_, m_save fu hf t g sl kp p hp, he, hg, b2⟩
    rw [hq]
    simp only [Option.bind_some, tr_l, b1]
  · refine .inr ⟨?_, m_saveX fu hf t g sl kp x hs⟩
    rw [hq]
    rfl
theorem t_restore (fu : Nat) (hf : 20000 ≤ fu) (t : Int32) {ee : ES} {hh : HS} {g u : Nat → Nat} {m : Nat} {sl kp : Nat → Nat} (h : ST ee hh g u m sl kp) (a : Nat → Nat) (x : Int32) :
    (∃ v ee' hh' g' a' u' m', J_X7_restore ee hh x = some (.inl v, ee', hh') ∧ J_X8_restore fu t (nW g) (nW a) (nW u) (nW sl) (nW kp) (nI m) x = some (v, nI 0, nW g', nW a', nW u', nI m') ∧ ST ee' hh' g' u' m' sl kp) ∨
    (J_X7_restore ee hh x = some (.inr "java/lang/IllegalArgumentException", ee, hh) ∧ J_X8_restore fu t (nW g) (nW a) (nW u) (nW sl) (nW kp) (nI m) x = some (nI 0, nI 1, nW g, nW a, nW u, nI m)) ∨
    (J_X7_restore ee hh x = some (.inr "java/util/NoSuchElementException", ee, hh) ∧ J_X8_restore fu t (nW g) (nW a) (nW u) (nW sl) (nW kp) (nI m) x = some (nI 0, nI 2, nW g, nW a, nW u, nI m)) := by
  obtain ⟨he, hg, hh0⟩ := h
  have hm := hh0.le
  unfold J_X7_restore
  rcases k_reqSlot x with ⟨p, hp, rfl, hq⟩ | ⟨hq, hs⟩
  · obtain ⟨s1, s2⟩ := k_isSaved hh0 p hp
    rw [hq]
    by_cases c : kp p = 0
    · refine .inr (.inr ⟨?_, m_restoreE fu t g a u sl kp m p hp c⟩)
      simp (disch := first | omega | assumption) only [tr_l, nq_neg, nq_fix, nq_sub1, nq_addN, nq_add, nq_mul, nq_sub, nq_ltN, nq_Nlt, nq_leN, nq_Nle, nq_lt, nq_le, nq_eq, nq_div, nq_pow, nq_tn, rd_W, wr_W, nS_eq, nS_ne, Option.bind_some, Option.bind_none, ↓reduceIte, Bool.false_eq_true, Nat.reduceEqDiff, Nat.reduceLT, Nat.reduceLeDiff, Nat.reduceAdd, Nat.reduceMul, Nat.reduceSub, Nat.reducePow, Nat.add_sub_cancel, Nat.zero_le, Nat.not_lt_zero, Nat.le_refl, Nat.lt_irrefl, l_0, l_1, l_2, l_3, l_4, l_5, l_6, l_7, l_8, l_9, l_10, l_13, l_14, l_16, l_20, l_24, l_26, l_30, l_31, l_32, l_48, l_57, l_59, l_63, l_96, l_97, l_100, l_122, l_200, l_255, l_256, l_270, l_400, l_429, l_526, l_780, l_800, l_926, l_1726, l_12082, s1, c]
    · have c1 : kp p = 1 := by omega
      obtain ⟨hh', b1, b2⟩ := k_remember hh0 he hg (E7_ka a g)
      obtain ⟨ee', d1, d2, d3⟩ := k_fetch b2 (RQ.EF he) p hp c1
      have hx : E7 (nC g sl 0 (1726 * p) 1726) (rw_ sl p) := fun j hj => by
        have := nC_in g sl 0 (1726 * p) 1726 j hj
        rw [Nat.zero_add] at this
        exact this
      have hel : e_encodedLength ee' = nI (sl (1726 * p + 6)) := by obtain ⟨p, l, le, nw, od, en, wr, wi, rfl, _⟩ := d2; rfl
      obtain ⟨r1, r2⟩ := RE.E7 ⟨d2, d3⟩ hx
      refine .inl ⟨nI (sl (1726 * p + 6)), ee', hh', _, _, _, _, ?_, m_restore fu hf t g a u sl kp m p hm hp c1, r1, r2, b2⟩
      simp (disch := first | omega | assumption) only [tr_l, nq_neg, nq_fix, nq_sub1, nq_addN, nq_add, nq_mul, nq_sub, nq_ltN, nq_Nlt, nq_leN, nq_Nle, nq_lt, nq_le, nq_eq, nq_div, nq_pow, nq_tn, rd_W, wr_W, nS_eq, nS_ne, Option.bind_some, Option.bind_none, ↓reduceIte, Bool.false_eq_true, Nat.reduceEqDiff, Nat.reduceLT, Nat.reduceLeDiff, Nat.reduceAdd, Nat.reduceMul, Nat.reduceSub, Nat.reducePow, Nat.add_sub_cancel, Nat.zero_le, Nat.not_lt_zero, Nat.le_refl, Nat.lt_irrefl, l_0, l_1, l_2, l_3, l_4, l_5, l_6, l_7, l_8, l_9, l_10, l_13, l_14, l_16, l_20, l_24, l_26, l_30, l_31, l_32, l_48, l_57, l_59, l_63, l_96, l_97, l_100, l_122, l_200, l_255, l_256, l_270, l_400, l_429, l_526, l_780, l_800, l_926, l_1726, l_12082, s1, c1, b1, d1, hel]
  · refine .inr (.inl ⟨?_, m_restoreX fu t g a u sl kp m x hs⟩)
    rw [hq]
    rfl
theorem RE_pol {e : ES} {g : Nat → Nat} (h : RE e g) (hg : GOOD g) (v : Nat) (hv : v ≤ 2) :
    RE (mkE (e_d e) (nI v) (e_limit e) (e_phrase e) (e_encoded e) (e_encodedLength e) (e_written e) (e_widths e) (e_writtenLength e) (e_bits e) (e_clears e) (e_recentCodes e) (e_recentSymbols e) (e_recentBits e)) (nS g 2 v) ∧ GOOD (nS g 2 v) := by
  have hs := SET_of hg.1
  unfold SET at hs
  have n := fun k (hk : k ≠ 2) => nS_ne g 2 v k hk
  refine ⟨?_, GOOD_of hg (fun j hj h2 h3 => n j h2) (by rw [nS_eq]; exact hv) (by rw [n 3 (by omega)]; omega) (by rw [n 3 (by omega)]; omega)⟩
  obtain ⟨p, l, le, nw, od, en, wr, wi, rfl, hr, hen, hww⟩ := h
  have f1 : gwd_ (nS g 2 v) = gwd_ g := by funext k; unfold gwd_; rw [n _ (by omega)]
  have f2 : gcd_ (nS g 2 v) = gcd_ g := by funext k; unfold gcd_; rw [n _ (by omega)]
  have f3 : gP (nS g 2 v) = gP g := by funext k; exact n _ (by omega)
  have f4 : gL (nS g 2 v) = gL g := by funext k; exact n _ (by omega)
  have f5 : gln (nS g 2 v) = gln g := by funext k; unfold gln gph; rw [f2, f3, f4, n 0 (by omega)]
  refine ⟨p, l, le, nw, od, en, wr, wi, ?_, ?_, fun i hi => ?_, fun i hi => ?_⟩
  · unfold phr gbs gss
    rw [f1, f5, nS_eq]
    simp (disch := omega) only [nS_ne]
    rfl
  · rw [f3, f4, n 0 (by omega), n 4 (by omega)]; exact hr
  · rw [n 6 (by omega)] at hi
    rw [n _ (by omega)]; exact hen i hi
  · rw [n 7 (by omega)] at hi
    rw [f1, f2]; exact hww i hi
theorem RE_lim {e : ES} {g : Nat → Nat} (h : RE e g) (hg : GOOD g) (v : Nat) (hv1 : 1 ≤ v) (hv : v ≤ 200) :
    RE (mkE (e_d e) (e_policy e) (nI v) (e_phrase e) (e_encoded e) (e_encodedLength e) (e_written e) (e_widths e) (e_writtenLength e) (e_bits e) (e_clears e) (e_recentCodes e) (e_recentSymbols e) (e_recentBits e)) (nS g 3 v) ∧ GOOD (nS g 3 v) := by
  have hs := SET_of hg.1
  unfold SET at hs
  have n := fun k (hk : k ≠ 3) => nS_ne g 3 v k hk
  refine ⟨?_, GOOD_of hg (fun j hj h2 h3 => n j h3) (by rw [n 2 (by omega)]; omega) (by rw [nS_eq]; exact hv1) (by rw [nS_eq]; exact hv)⟩
  obtain ⟨p, l, le, nw, od, en, wr, wi, rfl, hr, hen, hww⟩ := h
  have f1 : gwd_ (nS g 3 v) = gwd_ g := by funext k; unfold gwd_; rw [n _ (by omega)]
  have f2 : gcd_ (nS g 3 v) = gcd_ g := by funext k; unfold gcd_; rw [n _ (by omega)]
  have f3 : gP (nS g 3 v) = gP g := by funext k; exact n _ (by omega)
  have f4 : gL (nS g 3 v) = gL g := by funext k; exact n _ (by omega)
  have f5 : gln (nS g 3 v) = gln g := by funext k; unfold gln gph; rw [f2, f3, f4, n 0 (by omega)]
  refine ⟨p, l, le, nw, od, en, wr, wi, ?_, ?_, fun i hi => ?_, fun i hi => ?_⟩
  · unfold phr gbs gss
    rw [f1, f5, nS_eq]
    simp (disch := omega) only [nS_ne]
    rfl
  · rw [f3, f4, n 0 (by omega), n 4 (by omega)]; exact hr
  · rw [n 6 (by omega)] at hi
    rw [n _ (by omega)]; exact hen i hi
  · rw [n 7 (by omega)] at hi
    rw [f1, f2]; exact hww i hi
/-! the acts and looks, both sides: settings, plain looks -/
theorem t_setPolicy (fu : Nat) (hf : 20000 ≤ fu) (t : Int32) {ee : ES} {hh : HS} {g u : Nat → Nat} {m : Nat} {sl kp : Nat → Nat} (h : ST ee hh g u m sl kp) (a : Nat → Nat) (x : Int32) :
    (∃ v ee' hh' g' a' u' m', J_X7_setPolicy ee hh x = some (.inl v, ee', hh') ∧ J_X8_setPolicy fu t (nW g) (nW a) (nW u) (nI m) x = some (v, nI 0, nW g', nW a', nW u', nI m') ∧ ST ee' hh' g' u' m' sl kp) ∨
    (J_X7_setPolicy ee hh x = some (.inr "java/lang/IllegalArgumentException", ee, hh) ∧ J_X8_setPolicy fu t (nW g) (nW a) (nW u) (nI m) x = some (nI 0, nI 1, nW g, nW a, nW u, nI m)) := by
  obtain ⟨he, hg, hh0⟩ := h
  have hm := hh0.le
  have hpo : e_policy ee = nI (g 2) := by obtain ⟨p, l, le, nw, od, en, wr, wi, rfl, _⟩ := he; rfl
  unfold J_X7_setPolicy J_X8_setPolicy
  rcases cls32 x 3 (by omega) with hx | ⟨p, hp, rfl⟩ | ⟨p, h1, h2, rfl⟩
  · have hn : ∀ k, k < 2147483648 → x ≠ nI k := fun k hk e => by
      rw [e, l_0, nq_lt k 0 hk (by omega)] at hx
      omega
    refine .inr ⟨?_, ?_⟩
    · rw [if_neg (by rw [l_0]; exact hn 0 (by omega)), if_neg (by rw [l_1]; exact hn 1 (by omega)), if_neg (by rw [l_2]; exact hn 2 (by omega))]
    · simp (disch := first | omega | assumption) only [nq_neg, nq_fix, nq_sub1, nq_addN, nq_add, nq_mul, nq_sub, nq_ltN, nq_Nlt, nq_leN, nq_Nle, nq_lt, nq_le, nq_eq, nq_div, nq_pow, nq_tn, rd_W, wr_W, nS_eq, nS_ne, Option.bind_some, Option.bind_none, ↓reduceIte, Bool.false_eq_true, Nat.reduceEqDiff, Nat.reduceLT, Nat.reduceLeDiff, Nat.reduceAdd, Nat.reduceMul, Nat.reduceSub, Nat.reducePow, Nat.add_sub_cancel, Nat.zero_le, Nat.not_lt_zero, Nat.le_refl, Nat.lt_irrefl, l_0, l_1, l_2, l_3, l_4, l_5, l_6, l_7, l_8, l_9, l_10, l_13, l_14, l_16, l_20, l_24, l_26, l_30, l_31, l_32, l_48, l_57, l_59, l_63, l_96, l_97, l_100, l_122, l_200, l_255, l_256, l_270, l_400, l_429, l_526, l_780, l_800, l_926, l_1726, l_12082, m_inNeg x _ hx, m_throwing]
  · obtain ⟨hh', b1, b2⟩ := k_remember hh0 he hg (E7_ka a g)
    obtain ⟨r1, r2⟩ := RE_pol he hg p (by omega)
    refine .inl ⟨nI (g 2), _, hh', nS g 2 p, nC a g 0 0 1726, chU u (nC a g 0 0 1726) m, chK m, ?_, ?_, r1, r2, b2⟩
    · have hb : J_X7_setPolicy_b24 ee hh (nI p) = some (.inl (nI (g 2)), mkE (e_d ee) (nI p) (e_limit ee) (e_phrase ee) (e_encoded ee) (e_encodedLength ee) (e_written ee) (e_widths ee) (e_writtenLength ee) (e_bits ee) (e_clears ee) (e_recentCodes ee) (e_recentSymbols ee) (e_recentBits ee), hh') := by
        unfold J_X7_setPolicy_b24
        rw [b1, hpo]
        rfl
      have h3 : p = 0 ∨ p = 1 ∨ p = 2 := by omega
      rcases h3 with rfl | rfl | rfl
      · rw [if_pos l_0.symm]; exact hb
      · rw [if_neg (by decide), if_pos l_1.symm]; exact hb
      · rw [if_neg (by decide), if_neg (by decide), if_pos l_2.symm]; exact hb
    · rw [l_0, l_2, m_in p 0 2 (by omega) (by omega) (by omega), if_pos (show 0 ≤ p ∧ p ≤ 2 by omega)]
      simp (disch := first | omega | assumption) only [nq_neg, nq_fix, nq_sub1, nq_addN, nq_add, nq_mul, nq_sub, nq_ltN, nq_Nlt, nq_leN, nq_Nle, nq_lt, nq_le, nq_eq, nq_div, nq_pow, nq_tn, rd_W, wr_W, nS_eq, nS_ne, Option.bind_some, Option.bind_none, ↓reduceIte, Bool.false_eq_true, Nat.reduceEqDiff, Nat.reduceLT, Nat.reduceLeDiff, Nat.reduceAdd, Nat.reduceMul, Nat.reduceSub, Nat.reducePow, Nat.add_sub_cancel, Nat.zero_le, Nat.not_lt_zero, Nat.le_refl, Nat.lt_irrefl, l_0, l_1, l_2, l_3, l_4, l_5, l_6, l_7, l_8, l_9, l_10, l_13, l_14, l_16, l_20, l_24, l_26, l_30, l_31, l_32, l_48, l_57, l_59, l_63, l_96, l_97, l_100, l_122, l_200, l_255, l_256, l_270, l_400, l_429, l_526, l_780, l_800, l_926, l_1726, l_12082, m_keepsAside fu hf, m_changed fu hf _ u t _ m hm]
  · refine .inr ⟨?_, ?_⟩
    · simp (disch := first | omega | assumption) only [nq_neg, nq_fix, nq_sub1, nq_addN, nq_add, nq_mul, nq_sub, nq_ltN, nq_Nlt, nq_leN, nq_Nle, nq_lt, nq_le, nq_eq, nq_div, nq_pow, nq_tn, rd_W, wr_W, nS_eq, nS_ne, Option.bind_some, Option.bind_none, ↓reduceIte, Bool.false_eq_true, Nat.reduceEqDiff, Nat.reduceLT, Nat.reduceLeDiff, Nat.reduceAdd, Nat.reduceMul, Nat.reduceSub, Nat.reducePow, Nat.add_sub_cancel, Nat.zero_le, Nat.not_lt_zero, Nat.le_refl, Nat.lt_irrefl, l_0, l_1, l_2, l_3, l_4, l_5, l_6, l_7, l_8, l_9, l_10, l_13, l_14, l_16, l_20, l_24, l_26, l_30, l_31, l_32, l_48, l_57, l_59, l_63, l_96, l_97, l_100, l_122, l_200, l_255, l_256, l_270, l_400, l_429, l_526, l_780, l_800, l_926, l_1726, l_12082, show ¬ (p = 0) by omega, show ¬ (p = 1) by omega, show ¬ (p = 2) by omega]
    · rw [l_0, l_2, m_in p 0 2 (by omega) (by omega) (by omega), if_neg (show ¬ (0 ≤ p ∧ p ≤ 2) by omega)]
      simp (disch := first | omega | assumption) only [nq_neg, nq_fix, nq_sub1, nq_addN, nq_add, nq_mul, nq_sub, nq_ltN, nq_Nlt, nq_leN, nq_Nle, nq_lt, nq_le, nq_eq, nq_div, nq_pow, nq_tn, rd_W, wr_W, nS_eq, nS_ne, Option.bind_some, Option.bind_none, ↓reduceIte, Bool.false_eq_true, Nat.reduceEqDiff, Nat.reduceLT, Nat.reduceLeDiff, Nat.reduceAdd, Nat.reduceMul, Nat.reduceSub, Nat.reducePow, Nat.add_sub_cancel, Nat.zero_le, Nat.not_lt_zero, Nat.le_refl, Nat.lt_irrefl, l_0, l_1, l_2, l_3, l_4, l_5, l_6, l_7, l_8, l_9, l_10, l_13, l_14, l_16, l_20, l_24, l_26, l_30, l_31, l_32, l_48, l_57, l_59, l_63, l_96, l_97, l_100, l_122, l_200, l_255, l_256, l_270, l_400, l_429, l_526, l_780, l_800, l_926, l_1726, l_12082, m_throwing]
theorem m_isPercent (p : Nat) (hp : p < 2147483648) : J_X8_isPercent (nI p) = some (nI (if 1 ≤ p ∧ p ≤ 200 then 1 else 0)) := by
  unfold J_X8_isPercent
  rw [l_1, l_200, m_in p 1 200 hp (by omega) (by omega)]
  simp only [Option.bind_some]
  have : (if 1 ≤ p ∧ p ≤ 200 then 1 else 0) ≤ 1 := by split <;> omega
  exact if_pos (and1 _ this)
theorem m_isPercentN (x : Int32) (h : x < 0) : J_X8_isPercent x = some (nI 0) := by
  have h1 : J_X8_in x 1 200 = some 0 := by
    unfold J_X8_in
    refine if_pos (Int32.lt_trans h (by decide))
  unfold J_X8_isPercent
  rw [h1]
  rfl
theorem t_setLimit (fu : Nat) (hf : 20000 ≤ fu) (t : Int32) {ee : ES} {hh : HS} {g u : Nat → Nat} {m : Nat} {sl kp : Nat → Nat} (h : ST ee hh g u m sl kp) (a : Nat → Nat) (x : Int32) :
    (∃ v ee' hh' g' a' u' m', J_X7_setLimit ee hh x = some (.inl v, ee', hh') ∧ J_X8_setLimit fu t (nW g) (nW a) (nW u) (nI m) x = some (v, nI 0, nW g', nW a', nW u', nI m') ∧ ST ee' hh' g' u' m' sl kp) ∨
    (J_X7_setLimit ee hh x = some (.inr "java/lang/IllegalArgumentException", ee, hh) ∧ J_X8_setLimit fu t (nW g) (nW a) (nW u) (nI m) x = some (nI 0, nI 1, nW g, nW a, nW u, nI m)) := by
  obtain ⟨he, hg, hh0⟩ := h
  have hm := hh0.le
  have hpo : e_limit ee = nI (g 3) := by obtain ⟨p, l, le, nw, od, en, wr, wi, rfl, _⟩ := he; rfl
  unfold J_X7_setLimit J_X8_setLimit J_X7_setLimit_b12
  rcases cases32 x with hx | ⟨p, hp, rfl⟩
  · refine .inr ⟨if_pos (Int32.lt_trans hx (by decide)), ?_⟩
    rw [m_isPercentN x hx]
    rfl
  · rw [m_isPercent p hp]
    by_cases c : 1 ≤ p ∧ p ≤ 200
    · obtain ⟨hh', b1, b2⟩ := k_remember hh0 he hg (E7_ka a g)
      obtain ⟨r1, r2⟩ := RE_lim he hg p c.1 c.2
      refine .inl ⟨nI (g 3), _, hh', nS g 3 p, nC a g 0 0 1726, chU u (nC a g 0 0 1726) m, chK m, ?_, ?_, r1, r2, b2⟩
      · rw [← hpo]
        simp (disch := first | omega | assumption) only [nq_neg, nq_fix, nq_sub1, nq_addN, nq_add, nq_mul, nq_sub, nq_ltN, nq_Nlt, nq_leN, nq_Nle, nq_lt, nq_le, nq_eq, nq_div, nq_pow, nq_tn, rd_W, wr_W, nS_eq, nS_ne, Option.bind_some, Option.bind_none, ↓reduceIte, Bool.false_eq_true, Nat.reduceEqDiff, Nat.reduceLT, Nat.reduceLeDiff, Nat.reduceAdd, Nat.reduceMul, Nat.reduceSub, Nat.reducePow, Nat.add_sub_cancel, Nat.zero_le, Nat.not_lt_zero, Nat.le_refl, Nat.lt_irrefl, l_0, l_1, l_2, l_3, l_4, l_5, l_6, l_7, l_8, l_9, l_10, l_13, l_14, l_16, l_20, l_24, l_26, l_30, l_31, l_32, l_48, l_57, l_59, l_63, l_96, l_97, l_100, l_122, l_200, l_255, l_256, l_270, l_400, l_429, l_526, l_780, l_800, l_926, l_1726, l_12082, show ¬ (p < 1) by omega, c.2, b1]
      · rw [if_pos c]
        simp (disch := first | omega | assumption) only [nq_neg, nq_fix, nq_sub1, nq_addN, nq_add, nq_mul, nq_sub, nq_ltN, nq_Nlt, nq_leN, nq_Nle, nq_lt, nq_le, nq_eq, nq_div, nq_pow, nq_tn, rd_W, wr_W, nS_eq, nS_ne, Option.bind_some, Option.bind_none, ↓reduceIte, Bool.false_eq_true, Nat.reduceEqDiff, Nat.reduceLT, Nat.reduceLeDiff, Nat.reduceAdd, Nat.reduceMul, Nat.reduceSub, Nat.reducePow, Nat.add_sub_cancel, Nat.zero_le, Nat.not_lt_zero, Nat.le_refl, Nat.lt_irrefl, l_0, l_1, l_2, l_3, l_4, l_5, l_6, l_7, l_8, l_9, l_10, l_13, l_14, l_16, l_20, l_24, l_26, l_30, l_31, l_32, l_48, l_57, l_59, l_63, l_96, l_97, l_100, l_122, l_200, l_255, l_256, l_270, l_400, l_429, l_526, l_780, l_800, l_926, l_1726, l_12082, m_keepsAside fu hf, m_changed fu hf _ u t _ m hm]
    · refine .inr ⟨?_, ?_⟩
      · by_cases c1 : p < 1
        · simp (disch := first | omega | assumption) only [nq_neg, nq_fix, nq_sub1, nq_addN, nq_add, nq_mul, nq_sub, nq_ltN, nq_Nlt, nq_leN, nq_Nle, nq_lt, nq_le, nq_eq, nq_div, nq_pow, nq_tn, rd_W, wr_W, nS_eq, nS_ne, Option.bind_some, Option.bind_none, ↓reduceIte, Bool.false_eq_true, Nat.reduceEqDiff, Nat.reduceLT, Nat.reduceLeDiff, Nat.reduceAdd, Nat.reduceMul, Nat.reduceSub, Nat.reducePow, Nat.add_sub_cancel, Nat.zero_le, Nat.not_lt_zero, Nat.le_refl, Nat.lt_irrefl, l_0, l_1, l_2, l_3, l_4, l_5, l_6, l_7, l_8, l_9, l_10, l_13, l_14, l_16, l_20, l_24, l_26, l_30, l_31, l_32, l_48, l_57, l_59, l_63, l_96, l_97, l_100, l_122, l_200, l_255, l_256, l_270, l_400, l_429, l_526, l_780, l_800, l_926, l_1726, l_12082, c1]
        · simp (disch := first | omega | assumption) only [nq_neg, nq_fix, nq_sub1, nq_addN, nq_add, nq_mul, nq_sub, nq_ltN, nq_Nlt, nq_leN, nq_Nle, nq_lt, nq_le, nq_eq, nq_div, nq_pow, nq_tn, rd_W, wr_W, nS_eq, nS_ne, Option.bind_some, Option.bind_none, ↓reduceIte, Bool.false_eq_true, Nat.reduceEqDiff, Nat.reduceLT, Nat.reduceLeDiff, Nat.reduceAdd, Nat.reduceMul, Nat.reduceSub, Nat.reducePow, Nat.add_sub_cancel, Nat.zero_le, Nat.not_lt_zero, Nat.le_refl, Nat.lt_irrefl, l_0, l_1, l_2, l_3, l_4, l_5, l_6, l_7, l_8, l_9, l_10, l_13, l_14, l_16, l_20, l_24, l_26, l_30, l_31, l_32, l_48, l_57, l_59, l_63, l_96, l_97, l_100, l_122, l_200, l_255, l_256, l_270, l_400, l_429, l_526, l_780, l_800, l_926, l_1726, l_12082, c1, show ¬ (p ≤ 200) by omega]
      · rw [if_neg c]
        simp (disch := first | omega | assumption) only [nq_neg, nq_fix, nq_sub1, nq_addN, nq_add, nq_mul, nq_sub, nq_ltN, nq_Nlt, nq_leN, nq_Nle, nq_lt, nq_le, nq_eq, nq_div, nq_pow, nq_tn, rd_W, wr_W, nS_eq, nS_ne, Option.bind_some, Option.bind_none, ↓reduceIte, Bool.false_eq_true, Nat.reduceEqDiff, Nat.reduceLT, Nat.reduceLeDiff, Nat.reduceAdd, Nat.reduceMul, Nat.reduceSub, Nat.reducePow, Nat.add_sub_cancel, Nat.zero_le, Nat.not_lt_zero, Nat.le_refl, Nat.lt_irrefl, l_0, l_1, l_2, l_3, l_4, l_5, l_6, l_7, l_8, l_9, l_10, l_13, l_14, l_16, l_20, l_24, l_26, l_30, l_31, l_32, l_48, l_57, l_59, l_63, l_96, l_97, l_100, l_122, l_200, l_255, l_256, l_270, l_400, l_429, l_526, l_780, l_800, l_926, l_1726, l_12082, m_throwing]
/-! the looks, both sides: settings, counts -/
theorem t_looks0 (fu : Nat) (hf : 20000 ≤ fu) (t : Int32) {ee : ES} {g : Nat → Nat} (h : RE ee g) (hg : GOOD g) :
    (∃ v, J_X7_alphabetSize ee = some v ∧ J_X8_alphabetSize t (nW g) = some (v, nI 0)) ∧ (∃ v, J_X7_greatestWidth ee = some v ∧ J_X8_greatestWidth t (nW g) = some (v, nI 0)) ∧
    (∃ v, J_X7_policy ee = some v ∧ J_X8_policy t (nW g) = some (v, nI 0)) ∧ (∃ v, J_X7_limit ee = some v ∧ J_X8_limit t (nW g) = some (v, nI 0)) ∧
    (∃ v, J_X7_clearCode ee = some v ∧ J_X8_clearCode t (nW g) = some (v, nI 0)) ∧ (∃ v, J_X7_codeCount ee = some v ∧ J_X8_codeCount t (nW g) = some (v, nI 0)) ∧
    (∃ v, J_X7_encodedCount ee = some v ∧ J_X8_encodedCount t (nW g) = some (v, nI 0)) ∧ (∃ v, J_X7_writtenCount ee = some v ∧ J_X8_writtenCount t (nW g) = some (v, nI 0)) ∧
    (∃ v, J_X7_clearCount ee = some v ∧ J_X8_clearCount t (nW g) = some (v, nI 0)) ∧ (∃ v, J_X7_codesSinceClear ee = some v ∧ J_X8_codesSinceClear t (nW g) = some (v, nI 0)) := by
  obtain ⟨p, l, le, nw, od, en, wr, wi, rfl, hr, hen, hww⟩ := h
  have h97 := hg.1.1.2.2.1
  refine ⟨⟨_, rfl, ?_⟩, ⟨_, rfl, ?_⟩, ⟨_, rfl, ?_⟩, ⟨_, rfl, ?_⟩, ⟨_, rfl, ?_⟩, ⟨_, rfl, ?_⟩, ⟨_, rfl, ?_⟩, ⟨_, rfl, ?_⟩, ⟨_, rfl, ?_⟩, ⟨_, rfl, ?_⟩⟩
  · unfold J_X8_alphabetSize; simp (disch := first | omega | assumption) only [nq_neg, nq_fix, nq_sub1, nq_addN, nq_add, nq_mul, nq_sub, nq_ltN, nq_Nlt, nq_leN, nq_Nle, nq_lt, nq_le, nq_eq, nq_div, nq_pow, nq_tn, rd_W, wr_W, nS_eq, nS_ne, Option.bind_some, Option.bind_none, ↓reduceIte, Bool.false_eq_true, Nat.reduceEqDiff, Nat.reduceLT, Nat.reduceLeDiff, Nat.reduceAdd, Nat.reduceMul, Nat.reduceSub, Nat.reducePow, Nat.add_sub_cancel, Nat.zero_le, Nat.not_lt_zero, Nat.le_refl, Nat.lt_irrefl, l_0, l_1, l_2, l_3, l_4, l_5, l_6, l_7, l_8, l_9, l_10, l_13, l_14, l_16, l_20, l_24, l_26, l_30, l_31, l_32, l_48, l_57, l_59, l_63, l_96, l_97, l_100, l_122, l_200, l_255, l_256, l_270, l_400, l_429, l_526, l_780, l_800, l_926, l_1726, l_12082, m_told, d_prefix, d_lastSymbol, d_lengths, d_newest, d_older, d_alphabet, d_widest, d_count, mkD, dN, e_d, e_policy, e_limit, e_phrase, e_encoded, e_encodedLength, e_written, e_widths, e_writtenLength, e_bits, e_clears, e_recentCodes, e_recentSymbols, e_recentBits, mkE, eN]
  · unfold J_X8_greatestWidth; simp (disch := first | omega | assumption) only [nq_neg, nq_fix, nq_sub1, nq_addN, nq_add, nq_mul, nq_sub, nq_ltN, nq_Nlt, nq_leN, nq_Nle, nq_lt, nq_le, nq_eq, nq_div, nq_pow, nq_tn, rd_W, wr_W, nS_eq, nS_ne, Option.bind_some, Option.bind_none, ↓reduceIte, Bool.false_eq_true, Nat.reduceEqDiff, Nat.reduceLT, Nat.reduceLeDiff, Nat.reduceAdd, Nat.reduceMul, Nat.reduceSub, Nat.reducePow, Nat.add_sub_cancel, Nat.zero_le, Nat.not_lt_zero, Nat.le_refl, Nat.lt_irrefl, l_0, l_1, l_2, l_3, l_4, l_5, l_6, l_7, l_8, l_9, l_10, l_13, l_14, l_16, l_20, l_24, l_26, l_30, l_31, l_32, l_48, l_57, l_59, l_63, l_96, l_97, l_100, l_122, l_200, l_255, l_256, l_270, l_400, l_429, l_526, l_780, l_800, l_926, l_1726, l_12082, m_told, d_prefix, d_lastSymbol, d_lengths, d_newest, d_older, d_alphabet, d_widest, d_count, mkD, dN, e_d, e_policy, e_limit, e_phrase, e_encoded, e_encodedLength, e_written, e_widths, e_writtenLength, e_bits, e_clears, e_recentCodes, e_recentSymbols, e_recentBits, mkE, eN]
  · unfold J_X8_policy; simp (disch := first | omega | assumption) only [nq_neg, nq_fix, nq_sub1, nq_addN, nq_add, nq_mul, nq_sub, nq_ltN, nq_Nlt, nq_leN, nq_Nle, nq_lt, nq_le, nq_eq, nq_div, nq_pow, nq_tn, rd_W, wr_W, nS_eq, nS_ne, Option.bind_some, Option.bind_none, ↓reduceIte, Bool.false_eq_true, Nat.reduceEqDiff, Nat.reduceLT, Nat.reduceLeDiff, Nat.reduceAdd, Nat.reduceMul, Nat.reduceSub, Nat.reducePow, Nat.add_sub_cancel, Nat.zero_le, Nat.not_lt_zero, Nat.le_refl, Nat.lt_irrefl, l_0, l_1, l_2, l_3, l_4, l_5, l_6, l_7, l_8, l_9, l_10, l_13, l_14, l_16, l_20, l_24, l_26, l_30, l_31, l_32, l_48, l_57, l_59, l_63, l_96, l_97, l_100, l_122, l_200, l_255, l_256, l_270, l_400, l_429, l_526, l_780, l_800, l_926, l_1726, l_12082, m_told, d_prefix, d_lastSymbol, d_lengths, d_newest, d_older, d_alphabet, d_widest, d_count, mkD, dN, e_d, e_policy, e_limit, e_phrase, e_encoded, e_encodedLength, e_written, e_widths, e_writtenLength, e_bits, e_clears, e_recentCodes, e_recentSymbols, e_recentBits, mkE, eN]
  · unfold J_X8_limit; simp (disch := first | omega | assumption) only [nq_neg, nq_fix, nq_sub1, nq_addN, nq_add, nq_mul, nq_sub, nq_ltN, nq_Nlt, nq_leN, nq_Nle, nq_lt, nq_le, nq_eq, nq_div, nq_pow, nq_tn, rd_W, wr_W, nS_eq, nS_ne, Option.bind_some, Option.bind_none, ↓reduceIte, Bool.false_eq_true, Nat.reduceEqDiff, Nat.reduceLT, Nat.reduceLeDiff, Nat.reduceAdd, Nat.reduceMul, Nat.reduceSub, Nat.reducePow, Nat.add_sub_cancel, Nat.zero_le, Nat.not_lt_zero, Nat.le_refl, Nat.lt_irrefl, l_0, l_1, l_2, l_3, l_4, l_5, l_6, l_7, l_8, l_9, l_10, l_13, l_14, l_16, l_20, l_24, l_26, l_30, l_31, l_32, l_48, l_57, l_59, l_63, l_96, l_97, l_100, l_122, l_200, l_255, l_256, l_270, l_400, l_429, l_526, l_780, l_800, l_926, l_1726, l_12082, m_told, d_prefix, d_lastSymbol, d_lengths, d_newest, d_older, d_alphabet, d_widest, d_count, mkD, dN, e_d, e_policy, e_limit, e_phrase, e_encoded, e_encodedLength, e_written, e_widths, e_writtenLength, e_bits, e_clears, e_recentCodes, e_recentSymbols, e_recentBits, mkE, eN]
  · unfold J_X8_clearCode J_X8_clear; simp (disch := first | omega | assumption) only [nq_neg, nq_fix, nq_sub1, nq_addN, nq_add, nq_mul, nq_sub, nq_ltN, nq_Nlt, nq_leN, nq_Nle, nq_lt, nq_le, nq_eq, nq_div, nq_pow, nq_tn, rd_W, wr_W, nS_eq, nS_ne, Option.bind_some, Option.bind_none, ↓reduceIte, Bool.false_eq_true, Nat.reduceEqDiff, Nat.reduceLT, Nat.reduceLeDiff, Nat.reduceAdd, Nat.reduceMul, Nat.reduceSub, Nat.reducePow, Nat.add_sub_cancel, Nat.zero_le, Nat.not_lt_zero, Nat.le_refl, Nat.lt_irrefl, l_0, l_1, l_2, l_3, l_4, l_5, l_6, l_7, l_8, l_9, l_10, l_13, l_14, l_16, l_20, l_24, l_26, l_30, l_31, l_32, l_48, l_57, l_59, l_63, l_96, l_97, l_100, l_122, l_200, l_255, l_256, l_270, l_400, l_429, l_526, l_780, l_800, l_926, l_1726, l_12082, m_told, d_prefix, d_lastSymbol, d_lengths, d_newest, d_older, d_alphabet, d_widest, d_count, mkD, dN, e_d, e_policy, e_limit, e_phrase, e_encoded, e_encodedLength, e_written, e_widths, e_writtenLength, e_bits, e_clears, e_recentCodes, e_recentSymbols, e_recentBits, mkE, eN]
  · unfold J_X8_codeCount; simp (disch := first | omega | assumption) only [nq_neg, nq_fix, nq_sub1, nq_addN, nq_add, nq_mul, nq_sub, nq_ltN, nq_Nlt, nq_leN, nq_Nle, nq_lt, nq_le, nq_eq, nq_div, nq_pow, nq_tn, rd_W, wr_W, nS_eq, nS_ne, Option.bind_some, Option.bind_none, ↓reduceIte, Bool.false_eq_true, Nat.reduceEqDiff, Nat.reduceLT, Nat.reduceLeDiff, Nat.reduceAdd, Nat.reduceMul, Nat.reduceSub, Nat.reducePow, Nat.add_sub_cancel, Nat.zero_le, Nat.not_lt_zero, Nat.le_refl, Nat.lt_irrefl, l_0, l_1, l_2, l_3, l_4, l_5, l_6, l_7, l_8, l_9, l_10, l_13, l_14, l_16, l_20, l_24, l_26, l_30, l_31, l_32, l_48, l_57, l_59, l_63, l_96, l_97, l_100, l_122, l_200, l_255, l_256, l_270, l_400, l_429, l_526, l_780, l_800, l_926, l_1726, l_12082, m_told, d_prefix, d_lastSymbol, d_lengths, d_newest, d_older, d_alphabet, d_widest, d_count, mkD, dN, e_d, e_policy, e_limit, e_phrase, e_encoded, e_encodedLength, e_written, e_widths, e_writtenLength, e_bits, e_clears, e_recentCodes, e_recentSymbols, e_recentBits, mkE, eN]
  · unfold J_X8_encodedCount; simp (disch := first | omega | assumption) only [nq_neg, nq_fix, nq_sub1, nq_addN, nq_add, nq_mul, nq_sub, nq_ltN, nq_Nlt, nq_leN, nq_Nle, nq_lt, nq_le, nq_eq, nq_div, nq_pow, nq_tn, rd_W, wr_W, nS_eq, nS_ne, Option.bind_some, Option.bind_none, ↓reduceIte, Bool.false_eq_true, Nat.reduceEqDiff, Nat.reduceLT, Nat.reduceLeDiff, Nat.reduceAdd, Nat.reduceMul, Nat.reduceSub, Nat.reducePow, Nat.add_sub_cancel, Nat.zero_le, Nat.not_lt_zero, Nat.le_refl, Nat.lt_irrefl, l_0, l_1, l_2, l_3, l_4, l_5, l_6, l_7, l_8, l_9, l_10, l_13, l_14, l_16, l_20, l_24, l_26, l_30, l_31, l_32, l_48, l_57, l_59, l_63, l_96, l_97, l_100, l_122, l_200, l_255, l_256, l_270, l_400, l_429, l_526, l_780, l_800, l_926, l_1726, l_12082, m_told, d_prefix, d_lastSymbol, d_lengths, d_newest, d_older, d_alphabet, d_widest, d_count, mkD, dN, e_d, e_policy, e_limit, e_phrase, e_encoded, e_encodedLength, e_written, e_widths, e_writtenLength, e_bits, e_clears, e_recentCodes, e_recentSymbols, e_recentBits, mkE, eN]
  · unfold J_X8_writtenCount; simp (disch := first | omega | assumption) only [nq_neg, nq_fix, nq_sub1, nq_addN, nq_add, nq_mul, nq_sub, nq_ltN, nq_Nlt, nq_leN, nq_Nle, nq_lt, nq_le, nq_eq, nq_div, nq_pow, nq_tn, rd_W, wr_W, nS_eq, nS_ne, Option.bind_some, Option.bind_none, ↓reduceIte, Bool.false_eq_true, Nat.reduceEqDiff, Nat.reduceLT, Nat.reduceLeDiff, Nat.reduceAdd, Nat.reduceMul, Nat.reduceSub, Nat.reducePow, Nat.add_sub_cancel, Nat.zero_le, Nat.not_lt_zero, Nat.le_refl, Nat.lt_irrefl, l_0, l_1, l_2, l_3, l_4, l_5, l_6, l_7, l_8, l_9, l_10, l_13, l_14, l_16, l_20, l_24, l_26, l_30, l_31, l_32, l_48, l_57, l_59, l_63, l_96, l_97, l_100, l_122, l_200, l_255, l_256, l_270, l_400, l_429, l_526, l_780, l_800, l_926, l_1726, l_12082, m_told, d_prefix, d_lastSymbol, d_lengths, d_newest, d_older, d_alphabet, d_widest, d_count, mkD, dN, e_d, e_policy, e_limit, e_phrase, e_encoded, e_encodedLength, e_written, e_widths, e_writtenLength, e_bits, e_clears, e_recentCodes, e_recentSymbols, e_recentBits, mkE, eN]
  · unfold J_X8_clearCount; simp (disch := first | omega | assumption) only [nq_neg, nq_fix, nq_sub1, nq_addN, nq_add, nq_mul, nq_sub, nq_ltN, nq_Nlt, nq_leN, nq_Nle, nq_lt, nq_le, nq_eq, nq_div, nq_pow, nq_tn, rd_W, wr_W, nS_eq, nS_ne, Option.bind_some, Option.bind_none, ↓reduceIte, Bool.false_eq_true, Nat.reduceEqDiff, Nat.reduceLT, Nat.reduceLeDiff, Nat.reduceAdd, Nat.reduceMul, Nat.reduceSub, Nat.reducePow, Nat.add_sub_cancel, Nat.zero_le, Nat.not_lt_zero, Nat.le_refl, Nat.lt_irrefl, l_0, l_1, l_2, l_3, l_4, l_5, l_6, l_7, l_8, l_9, l_10, l_13, l_14, l_16, l_20, l_24, l_26, l_30, l_31, l_32, l_48, l_57, l_59, l_63, l_96, l_97, l_100, l_122, l_200, l_255, l_256, l_270, l_400, l_429, l_526, l_780, l_800, l_926, l_1726, l_12082, m_told, d_prefix, d_lastSymbol, d_lengths, d_newest, d_older, d_alphabet, d_widest, d_count, mkD, dN, e_d, e_policy, e_limit, e_phrase, e_encoded, e_encodedLength, e_written, e_widths, e_writtenLength, e_bits, e_clears, e_recentCodes, e_recentSymbols, e_recentBits, mkE, eN]
  · unfold J_X8_codesSinceClear; simp (disch := first | omega | assumption) only [nq_neg, nq_fix, nq_sub1, nq_addN, nq_add, nq_mul, nq_sub, nq_ltN, nq_Nlt, nq_leN, nq_Nle, nq_lt, nq_le, nq_eq, nq_div, nq_pow, nq_tn, rd_W, wr_W, nS_eq, nS_ne, Option.bind_some, Option.bind_none, ↓reduceIte, Bool.false_eq_true, Nat.reduceEqDiff, Nat.reduceLT, Nat.reduceLeDiff, Nat.reduceAdd, Nat.reduceMul, Nat.reduceSub, Nat.reducePow, Nat.add_sub_cancel, Nat.zero_le, Nat.not_lt_zero, Nat.le_refl, Nat.lt_irrefl, l_0, l_1, l_2, l_3, l_4, l_5, l_6, l_7, l_8, l_9, l_10, l_13, l_14, l_16, l_20, l_24, l_26, l_30, l_31, l_32, l_48, l_57, l_59, l_63, l_96, l_97, l_100, l_122, l_200, l_255, l_256, l_270, l_400, l_429, l_526, l_780, l_800, l_926, l_1726, l_12082, m_told, d_prefix, d_lastSymbol, d_lengths, d_newest, d_older, d_alphabet, d_widest, d_count, mkD, dN, e_d, e_policy, e_limit, e_phrase, e_encoded, e_encodedLength, e_written, e_widths, e_writtenLength, e_bits, e_clears, e_recentCodes, e_recentSymbols, e_recentBits, mkE, eN]
theorem t_looks1 (fu : Nat) (hf : 20000 ≤ fu) (t : Int32) {ee : ES} {g : Nat → Nat} (h : RE ee g) (hg : GOOD g) :
    (∃ v, J_X7_plainWidth fu ee = some v ∧ J_X8_plainWidth fu t (nW g) = some (v, nI 0)) ∧ (∃ v, J_X7_capacity ee = some v ∧ J_X8_capacity t (nW g) = some (v, nI 0)) ∧
    (∃ v, J_X7_codeWidth fu ee = some v ∧ J_X8_codeWidth fu t (nW g) = some (v, nI 0)) ∧
    (∃ v, J_X7_symbolsSinceClear ee = some v ∧ J_X8_symbolsSinceClear fu t (nW g) = some (v, nI 0)) ∧ (∃ v, J_X7_bitsSinceClear ee = some v ∧ J_X8_bitsSinceClear fu t (nW g) = some (v, nI 0)) ∧
    (∃ v, J_X7_bitCount ee = some v ∧ J_X8_bitCount fu t (nW g) = some (v, nI 0)) ∧ (∃ v, J_X7_percentSinceClear fu ee = some v ∧ J_X8_percentSinceClear fu t (nW g) = some (v, nI 0)) ∧
    (∃ v, J_X7_isFull ee = some v ∧ J_X8_isFull t (nW g) = some (v, nI 0)) := by
  obtain ⟨p, l, le, nw, od, en, wr, wi, rfl, hr, hen, hww⟩ := h
  have hs := SET_of hg.1
  unfold SET at hs
  have hm := hg.1.1
  obtain ⟨hd, hp, h97, h7, hcc, hv⟩ := id hm
  obtain ⟨⟨hz2, h0, hw3, h1, hz, h4⟩, wd, ud⟩ := id hd
  have hb := gbs_le hm
  have a1 := k_widthSymbols fu (by omega) p l le nw od (g 0) (g 1) (g 4) (by omega)
  have a2 := k_room p l le nw od (g 0) (g 1) (g 4) h1
  have a3 := k_widthCodes fu (by omega) p l le nw od (g 0) (g 1) (g 4) h4
  have a4 := k_noRoom p l le nw od (g 0) (g 1) (g 4) h1 h4
  have a5 := k_percent fu (by omega) p l le nw od (g 0) (g 1) (g 4) (g 2) (g 3) (phr g) en (g 6) wr wi (g 7) (sm (gwd_ g) 0 (g 7)) (g 8) (g 7 - g 9) (gss g) (gbs g) (gbs g) (gss g) h0 (by omega) (by omega)
  refine ⟨⟨nI (bw (g 0)), ?_, ?_⟩, ⟨nI (2 ^ g 1), ?_, ?_⟩, ⟨nI (bw (g 4)), ?_, ?_⟩, ⟨_, rfl, ?_⟩, ⟨_, rfl, ?_⟩, ⟨_, rfl, ?_⟩, ⟨nI (pcn (g 0) (gbs g) (gss g)), ?_, ?_⟩, ⟨nI (if g 4 < 2 ^ g 1 then 0 else 1), ?_, ?_⟩⟩
  · unfold J_X7_plainWidth; simp (disch := first | omega | assumption) only [e_d, e_policy, e_limit, e_phrase, e_encoded, e_encodedLength, e_written, e_widths, e_writtenLength, e_bits, e_clears, e_recentCodes, e_recentSymbols, e_recentBits, mkE, eN, nq_neg, nq_fix, nq_sub1, nq_addN, nq_add, nq_mul, nq_sub, nq_ltN, nq_Nlt, nq_leN, nq_Nle, nq_lt, nq_le, nq_eq, nq_div, nq_pow, nq_tn, rd_W, wr_W, nS_eq, nS_ne, Option.bind_some, Option.bind_none, ↓reduceIte, Bool.false_eq_true, Nat.reduceEqDiff, Nat.reduceLT, Nat.reduceLeDiff, Nat.reduceAdd, Nat.reduceMul, Nat.reduceSub, Nat.reducePow, Nat.add_sub_cancel, Nat.zero_le, Nat.not_lt_zero, Nat.le_refl, Nat.lt_irrefl, l_0, l_1, l_2, l_3, l_4, l_5, l_6, l_7, l_8, l_9, l_10, l_13, l_14, l_16, l_20, l_24, l_26, l_30, l_31, l_32, l_48, l_57, l_59, l_63, l_96, l_97, l_100, l_122, l_200, l_255, l_256, l_270, l_400, l_429, l_526, l_780, l_800, l_926, l_1726, l_12082, a1]
  · unfold J_X8_plainWidth; simp (disch := first | omega | assumption) only [nq_neg, nq_fix, nq_sub1, nq_addN, nq_add, nq_mul, nq_sub, nq_ltN, nq_Nlt, nq_leN, nq_Nle, nq_lt, nq_le, nq_eq, nq_div, nq_pow, nq_tn, rd_W, wr_W, nS_eq, nS_ne, Option.bind_some, Option.bind_none, ↓reduceIte, Bool.false_eq_true, Nat.reduceEqDiff, Nat.reduceLT, Nat.reduceLeDiff, Nat.reduceAdd, Nat.reduceMul, Nat.reduceSub, Nat.reducePow, Nat.add_sub_cancel, Nat.zero_le, Nat.not_lt_zero, Nat.le_refl, Nat.lt_irrefl, l_0, l_1, l_2, l_3, l_4, l_5, l_6, l_7, l_8, l_9, l_10, l_13, l_14, l_16, l_20, l_24, l_26, l_30, l_31, l_32, l_48, l_57, l_59, l_63, l_96, l_97, l_100, l_122, l_200, l_255, l_256, l_270, l_400, l_429, l_526, l_780, l_800, l_926, l_1726, l_12082, m_plain fu (by omega) g h0, m_told]
  · unfold J_X7_capacity; simp (disch := first | omega | assumption) only [e_d, e_policy, e_limit, e_phrase, e_encoded, e_encodedLength, e_written, e_widths, e_writtenLength, e_bits, e_clears, e_recentCodes, e_recentSymbols, e_recentBits, mkE, eN, nq_neg, nq_fix, nq_sub1, nq_addN, nq_add, nq_mul, nq_sub, nq_ltN, nq_Nlt, nq_leN, nq_Nle, nq_lt, nq_le, nq_eq, nq_div, nq_pow, nq_tn, rd_W, wr_W, nS_eq, nS_ne, Option.bind_some, Option.bind_none, ↓reduceIte, Bool.false_eq_true, Nat.reduceEqDiff, Nat.reduceLT, Nat.reduceLeDiff, Nat.reduceAdd, Nat.reduceMul, Nat.reduceSub, Nat.reducePow, Nat.add_sub_cancel, Nat.zero_le, Nat.not_lt_zero, Nat.le_refl, Nat.lt_irrefl, l_0, l_1, l_2, l_3, l_4, l_5, l_6, l_7, l_8, l_9, l_10, l_13, l_14, l_16, l_20, l_24, l_26, l_30, l_31, l_32, l_48, l_57, l_59, l_63, l_96, l_97, l_100, l_122, l_200, l_255, l_256, l_270, l_400, l_429, l_526, l_780, l_800, l_926, l_1726, l_12082, a2]
  · unfold J_X8_capacity; simp (disch := first | omega | assumption) only [nq_neg, nq_fix, nq_sub1, nq_addN, nq_add, nq_mul, nq_sub, nq_ltN, nq_Nlt, nq_leN, nq_Nle, nq_lt, nq_le, nq_eq, nq_div, nq_pow, nq_tn, rd_W, wr_W, nS_eq, nS_ne, Option.bind_some, Option.bind_none, ↓reduceIte, Bool.false_eq_true, Nat.reduceEqDiff, Nat.reduceLT, Nat.reduceLeDiff, Nat.reduceAdd, Nat.reduceMul, Nat.reduceSub, Nat.reducePow, Nat.add_sub_cancel, Nat.zero_le, Nat.not_lt_zero, Nat.le_refl, Nat.lt_irrefl, l_0, l_1, l_2, l_3, l_4, l_5, l_6, l_7, l_8, l_9, l_10, l_13, l_14, l_16, l_20, l_24, l_26, l_30, l_31, l_32, l_48, l_57, l_59, l_63, l_96, l_97, l_100, l_122, l_200, l_255, l_256, l_270, l_400, l_429, l_526, l_780, l_800, l_926, l_1726, l_12082, m_mostCodes g h1, m_told]
  · unfold J_X7_codeWidth; simp (disch := first | omega | assumption) only [e_d, e_policy, e_limit, e_phrase, e_encoded, e_encodedLength, e_written, e_widths, e_writtenLength, e_bits, e_clears, e_recentCodes, e_recentSymbols, e_recentBits, mkE, eN, nq_neg, nq_fix, nq_sub1, nq_addN, nq_add, nq_mul, nq_sub, nq_ltN, nq_Nlt, nq_leN, nq_Nle, nq_lt, nq_le, nq_eq, nq_div, nq_pow, nq_tn, rd_W, wr_W, nS_eq, nS_ne, Option.bind_some, Option.bind_none, ↓reduceIte, Bool.false_eq_true, Nat.reduceEqDiff, Nat.reduceLT, Nat.reduceLeDiff, Nat.reduceAdd, Nat.reduceMul, Nat.reduceSub, Nat.reducePow, Nat.add_sub_cancel, Nat.zero_le, Nat.not_lt_zero, Nat.le_refl, Nat.lt_irrefl, l_0, l_1, l_2, l_3, l_4, l_5, l_6, l_7, l_8, l_9, l_10, l_13, l_14, l_16, l_20, l_24, l_26, l_30, l_31, l_32, l_48, l_57, l_59, l_63, l_96, l_97, l_100, l_122, l_200, l_255, l_256, l_270, l_400, l_429, l_526, l_780, l_800, l_926, l_1726, l_12082, a3]
  · unfold J_X8_codeWidth; simp (disch := first | omega | assumption) only [nq_neg, nq_fix, nq_sub1, nq_addN, nq_add, nq_mul, nq_sub, nq_ltN, nq_Nlt, nq_leN, nq_Nle, nq_lt, nq_le, nq_eq, nq_div, nq_pow, nq_tn, rd_W, wr_W, nS_eq, nS_ne, Option.bind_some, Option.bind_none, ↓reduceIte, Bool.false_eq_true, Nat.reduceEqDiff, Nat.reduceLT, Nat.reduceLeDiff, Nat.reduceAdd, Nat.reduceMul, Nat.reduceSub, Nat.reducePow, Nat.add_sub_cancel, Nat.zero_le, Nat.not_lt_zero, Nat.le_refl, Nat.lt_irrefl, l_0, l_1, l_2, l_3, l_4, l_5, l_6, l_7, l_8, l_9, l_10, l_13, l_14, l_16, l_20, l_24, l_26, l_30, l_31, l_32, l_48, l_57, l_59, l_63, l_96, l_97, l_100, l_122, l_200, l_255, l_256, l_270, l_400, l_429, l_526, l_780, l_800, l_926, l_1726, l_12082, m_bitsFor fu (g 4) h4 (by omega), m_told]
  · unfold J_X8_symbolsSinceClear; simp (disch := first | omega | assumption) only [nq_neg, nq_fix, nq_sub1, nq_addN, nq_add, nq_mul, nq_sub, nq_ltN, nq_Nlt, nq_leN, nq_Nle, nq_lt, nq_le, nq_eq, nq_div, nq_pow, nq_tn, rd_W, wr_W, nS_eq, nS_ne, Option.bind_some, Option.bind_none, ↓reduceIte, Bool.false_eq_true, Nat.reduceEqDiff, Nat.reduceLT, Nat.reduceLeDiff, Nat.reduceAdd, Nat.reduceMul, Nat.reduceSub, Nat.reducePow, Nat.add_sub_cancel, Nat.zero_le, Nat.not_lt_zero, Nat.le_refl, Nat.lt_irrefl, l_0, l_1, l_2, l_3, l_4, l_5, l_6, l_7, l_8, l_9, l_10, l_13, l_14, l_16, l_20, l_24, l_26, l_30, l_31, l_32, l_48, l_57, l_59, l_63, l_96, l_97, l_100, l_122, l_200, l_255, l_256, l_270, l_400, l_429, l_526, l_780, l_800, l_926, l_1726, l_12082, m_symbolsSince fu (by omega) g hm, m_told, e_d, e_policy, e_limit, e_phrase, e_encoded, e_encodedLength, e_written, e_widths, e_writtenLength, e_bits, e_clears, e_recentCodes, e_recentSymbols, e_recentBits, mkE, eN]; rfl
  · unfold J_X8_bitsSinceClear; simp (disch := first | omega | assumption) only [nq_neg, nq_fix, nq_sub1, nq_addN, nq_add, nq_mul, nq_sub, nq_ltN, nq_Nlt, nq_leN, nq_Nle, nq_lt, nq_le, nq_eq, nq_div, nq_pow, nq_tn, rd_W, wr_W, nS_eq, nS_ne, Option.bind_some, Option.bind_none, ↓reduceIte, Bool.false_eq_true, Nat.reduceEqDiff, Nat.reduceLT, Nat.reduceLeDiff, Nat.reduceAdd, Nat.reduceMul, Nat.reduceSub, Nat.reducePow, Nat.add_sub_cancel, Nat.zero_le, Nat.not_lt_zero, Nat.le_refl, Nat.lt_irrefl, l_0, l_1, l_2, l_3, l_4, l_5, l_6, l_7, l_8, l_9, l_10, l_13, l_14, l_16, l_20, l_24, l_26, l_30, l_31, l_32, l_48, l_57, l_59, l_63, l_96, l_97, l_100, l_122, l_200, l_255, l_256, l_270, l_400, l_429, l_526, l_780, l_800, l_926, l_1726, l_12082, m_bitsSince fu (by omega) g hm, m_told, e_d, e_policy, e_limit, e_phrase, e_encoded, e_encodedLength, e_written, e_widths, e_writtenLength, e_bits, e_clears, e_recentCodes, e_recentSymbols, e_recentBits, mkE, eN]; rfl
  · unfold J_X8_bitCount; simp (disch := first | omega | assumption) only [nq_neg, nq_fix, nq_sub1, nq_addN, nq_add, nq_mul, nq_sub, nq_ltN, nq_Nlt, nq_leN, nq_Nle, nq_lt, nq_le, nq_eq, nq_div, nq_pow, nq_tn, rd_W, wr_W, nS_eq, nS_ne, Option.bind_some, Option.bind_none, ↓reduceIte, Bool.false_eq_true, Nat.reduceEqDiff, Nat.reduceLT, Nat.reduceLeDiff, Nat.reduceAdd, Nat.reduceMul, Nat.reduceSub, Nat.reducePow, Nat.add_sub_cancel, Nat.zero_le, Nat.not_lt_zero, Nat.le_refl, Nat.lt_irrefl, l_0, l_1, l_2, l_3, l_4, l_5, l_6, l_7, l_8, l_9, l_10, l_13, l_14, l_16, l_20, l_24, l_26, l_30, l_31, l_32, l_48, l_57, l_59, l_63, l_96, l_97, l_100, l_122, l_200, l_255, l_256, l_270, l_400, l_429, l_526, l_780, l_800, l_926, l_1726, l_12082, m_allBits fu (by omega) g hm, m_told, e_d, e_policy, e_limit, e_phrase, e_encoded, e_encodedLength, e_written, e_widths, e_writtenLength, e_bits, e_clears, e_recentCodes, e_recentSymbols, e_recentBits, mkE, eN]
  · unfold J_X7_percentSinceClear; simp (disch := first | omega | assumption) only [e_d, e_policy, e_limit, e_phrase, e_encoded, e_encodedLength, e_written, e_widths, e_writtenLength, e_bits, e_clears, e_recentCodes, e_recentSymbols, e_recentBits, mkE, eN, nq_neg, nq_fix, nq_sub1, nq_addN, nq_add, nq_mul, nq_sub, nq_ltN, nq_Nlt, nq_leN, nq_Nle, nq_lt, nq_le, nq_eq, nq_div, nq_pow, nq_tn, rd_W, wr_W, nS_eq, nS_ne, Option.bind_some, Option.bind_none, ↓reduceIte, Bool.false_eq_true, Nat.reduceEqDiff, Nat.reduceLT, Nat.reduceLeDiff, Nat.reduceAdd, Nat.reduceMul, Nat.reduceSub, Nat.reducePow, Nat.add_sub_cancel, Nat.zero_le, Nat.not_lt_zero, Nat.le_refl, Nat.lt_irrefl, l_0, l_1, l_2, l_3, l_4, l_5, l_6, l_7, l_8, l_9, l_10, l_13, l_14, l_16, l_20, l_24, l_26, l_30, l_31, l_32, l_48, l_57, l_59, l_63, l_96, l_97, l_100, l_122, l_200, l_255, l_256, l_270, l_400, l_429, l_526, l_780, l_800, l_926, l_1726, l_12082] at a5 ⊢; simp (disch := first | omega | assumption) only [nq_neg, nq_fix, nq_sub1, nq_addN, nq_add, nq_mul, nq_sub, nq_ltN, nq_Nlt, nq_leN, nq_Nle, nq_lt, nq_le, nq_eq, nq_div, nq_pow, nq_tn, rd_W, wr_W, nS_eq, nS_ne, Option.bind_some, Option.bind_none, ↓reduceIte, Bool.false_eq_true, Nat.reduceEqDiff, Nat.reduceLT, Nat.reduceLeDiff, Nat.reduceAdd, Nat.reduceMul, Nat.reduceSub, Nat.reducePow, Nat.add_sub_cancel, Nat.zero_le, Nat.not_lt_zero, Nat.le_refl, Nat.lt_irrefl, l_0, l_1, l_2, l_3, l_4, l_5, l_6, l_7, l_8, l_9, l_10, l_13, l_14, l_16, l_20, l_24, l_26, l_30, l_31, l_32, l_48, l_57, l_59, l_63, l_96, l_97, l_100, l_122, l_200, l_255, l_256, l_270, l_400, l_429, l_526, l_780, l_800, l_926, l_1726, l_12082, a5]
  · unfold J_X8_percentSinceClear; simp (disch := first | omega | assumption) only [nq_neg, nq_fix, nq_sub1, nq_addN, nq_add, nq_mul, nq_sub, nq_ltN, nq_Nlt, nq_leN, nq_Nle, nq_lt, nq_le, nq_eq, nq_div, nq_pow, nq_tn, rd_W, wr_W, nS_eq, nS_ne, Option.bind_some, Option.bind_none, ↓reduceIte, Bool.false_eq_true, Nat.reduceEqDiff, Nat.reduceLT, Nat.reduceLeDiff, Nat.reduceAdd, Nat.reduceMul, Nat.reduceSub, Nat.reducePow, Nat.add_sub_cancel, Nat.zero_le, Nat.not_lt_zero, Nat.le_refl, Nat.lt_irrefl, l_0, l_1, l_2, l_3, l_4, l_5, l_6, l_7, l_8, l_9, l_10, l_13, l_14, l_16, l_20, l_24, l_26, l_30, l_31, l_32, l_48, l_57, l_59, l_63, l_96, l_97, l_100, l_122, l_200, l_255, l_256, l_270, l_400, l_429, l_526, l_780, l_800, l_926, l_1726, l_12082, m_percent fu (by omega) g hm, m_told]
  · unfold J_X7_isFull
    simp (disch := first | omega | assumption) only [e_d, e_policy, e_limit, e_phrase, e_encoded, e_encodedLength, e_written, e_widths, e_writtenLength, e_bits, e_clears, e_recentCodes, e_recentSymbols, e_recentBits, mkE, eN, nq_neg, nq_fix, nq_sub1, nq_addN, nq_add, nq_mul, nq_sub, nq_ltN, nq_Nlt, nq_leN, nq_Nle, nq_lt, nq_le, nq_eq, nq_div, nq_pow, nq_tn, rd_W, wr_W, nS_eq, nS_ne, Option.bind_some, Option.bind_none, ↓reduceIte, Bool.false_eq_true, Nat.reduceEqDiff, Nat.reduceLT, Nat.reduceLeDiff, Nat.reduceAdd, Nat.reduceMul, Nat.reduceSub, Nat.reducePow, Nat.add_sub_cancel, Nat.zero_le, Nat.not_lt_zero, Nat.le_refl, Nat.lt_irrefl, l_0, l_1, l_2, l_3, l_4, l_5, l_6, l_7, l_8, l_9, l_10, l_13, l_14, l_16, l_20, l_24, l_26, l_30, l_31, l_32, l_48, l_57, l_59, l_63, l_96, l_97, l_100, l_122, l_200, l_255, l_256, l_270, l_400, l_429, l_526, l_780, l_800, l_926, l_1726, l_12082, a4]
    exact if_pos (and1 _ (by split <;> omega))
  · unfold J_X8_isFull J_X8_toldIf
    rw [m_isAllFull g h1 h4]
    have e : (if g 4 = 2 ^ g 1 then 1 else 0) = (if g 4 < 2 ^ g 1 then 0 else 1) := by
      by_cases c : g 4 = 2 ^ g 1
      · rw [if_pos c, if_neg (by omega)]
      · rw [if_neg c, if_pos (by omega)]
    have hb01 : (if g 4 < 2 ^ g 1 then 0 else 1) ≤ 1 := by split <;> omega
    rw [e]
    simp only [Option.bind_some]
    rw [if_pos (and1 _ hb01)]
    exact if_pos (and1 _ hb01)
/-! the looks, both sides: at an index -/
theorem ix_cases (x : Int32) (n : Nat) (hn : n < 1000000) :
    (∃ p, p < n ∧ x = nI p ∧ J_X7_requireIndex x (nI n) = some (.inl ()) ∧ J_X8_in x (nI 0) (nI n - nI 1) = some (nI 1)) ∨
    (J_X7_requireIndex x (nI n) = some (.inr "java/lang/IndexOutOfBoundsException") ∧ J_X8_in x (nI 0) (nI n - nI 1) = some (nI 0)) := by
  unfold J_X7_requireIndex J_X7_requireIndex_b9
  rcases cls32 x n (by omega) with h | ⟨p, hp, rfl⟩ | ⟨p, h1, h2, rfl⟩
  · exact .inr ⟨if_pos h, m_inNeg x _ h⟩
  · refine .inl ⟨p, hp, rfl, ?_, ?_⟩
    · simp (disch := first | omega | assumption) only [nq_neg, nq_fix, nq_sub1, nq_addN, nq_add, nq_mul, nq_sub, nq_ltN, nq_Nlt, nq_leN, nq_Nle, nq_lt, nq_le, nq_eq, nq_div, nq_pow, nq_tn, rd_W, wr_W, nS_eq, nS_ne, Option.bind_some, Option.bind_none, ↓reduceIte, Bool.false_eq_true, Nat.reduceEqDiff, Nat.reduceLT, Nat.reduceLeDiff, Nat.reduceAdd, Nat.reduceMul, Nat.reduceSub, Nat.reducePow, Nat.add_sub_cancel, Nat.zero_le, Nat.not_lt_zero, Nat.le_refl, Nat.lt_irrefl, l_0, l_1, l_2, l_3, l_4, l_5, l_6, l_7, l_8, l_9, l_10, l_13, l_14, l_16, l_20, l_24, l_26, l_30, l_31, l_32, l_48, l_57, l_59, l_63, l_96, l_97, l_100, l_122, l_200, l_255, l_256, l_270, l_400, l_429, l_526, l_780, l_800, l_926, l_1726, l_12082, hp]
    · rw [nq_sub n 1 (by omega), m_in p 0 (n - 1) (by omega) (by omega) (by omega), if_pos (show 0 ≤ p ∧ p ≤ n - 1 by omega)]
  · refine .inr ⟨?_, ?_⟩
    · simp (disch := first | omega | assumption) only [nq_neg, nq_fix, nq_sub1, nq_addN, nq_add, nq_mul, nq_sub, nq_ltN, nq_Nlt, nq_leN, nq_Nle, nq_lt, nq_le, nq_eq, nq_div, nq_pow, nq_tn, rd_W, wr_W, nS_eq, nS_ne, Option.bind_some, Option.bind_none, ↓reduceIte, Bool.false_eq_true, Nat.reduceEqDiff, Nat.reduceLT, Nat.reduceLeDiff, Nat.reduceAdd, Nat.reduceMul, Nat.reduceSub, Nat.reducePow, Nat.add_sub_cancel, Nat.zero_le, Nat.not_lt_zero, Nat.le_refl, Nat.lt_irrefl, l_0, l_1, l_2, l_3, l_4, l_5, l_6, l_7, l_8, l_9, l_10, l_13, l_14, l_16, l_20, l_24, l_26, l_30, l_31, l_32, l_48, l_57, l_59, l_63, l_96, l_97, l_100, l_122, l_200, l_255, l_256, l_270, l_400, l_429, l_526, l_780, l_800, l_926, l_1726, l_12082, show ¬ (p < n) by omega]
    · by_cases c : n = 0
      · subst c
        rw [nq_sub1]
        unfold J_X8_in
        simp (disch := first | omega | assumption) only [nq_neg, nq_fix, nq_sub1, nq_addN, nq_add, nq_mul, nq_sub, nq_ltN, nq_Nlt, nq_leN, nq_Nle, nq_lt, nq_le, nq_eq, nq_div, nq_pow, nq_tn, rd_W, wr_W, nS_eq, nS_ne, Option.bind_some, Option.bind_none, ↓reduceIte, Bool.false_eq_true, Nat.reduceEqDiff, Nat.reduceLT, Nat.reduceLeDiff, Nat.reduceAdd, Nat.reduceMul, Nat.reduceSub, Nat.reducePow, Nat.add_sub_cancel, Nat.zero_le, Nat.not_lt_zero, Nat.le_refl, Nat.lt_irrefl, l_0, l_1, l_2, l_3, l_4, l_5, l_6, l_7, l_8, l_9, l_10, l_13, l_14, l_16, l_20, l_24, l_26, l_30, l_31, l_32, l_48, l_57, l_59, l_63, l_96, l_97, l_100, l_122, l_200, l_255, l_256, l_270, l_400, l_429, l_526, l_780, l_800, l_926, l_1726, l_12082]
      · rw [nq_sub n 1 (by omega), m_in p 0 (n - 1) h2 (by omega) (by omega), if_neg (show ¬ (0 ≤ p ∧ p ≤ n - 1) by omega)]
theorem code_cases {ee : ES} {g : Nat → Nat} (h : RE ee g) (hg : GOOD g) (x : Int32) :
    (∃ p, p < g 4 ∧ x = nI p ∧ J_X7_requireCode ee x = some (.inl ()) ∧ J_X8_isCode (nW g) x = some (nI 1)) ∨
    (J_X7_requireCode ee x = some (.inr "java/lang/IndexOutOfBoundsException") ∧ J_X8_isCode (nW g) x = some (nI 0)) := by
  have h4 := hg.1.1.1.1.2.2.2.2.2
  have hdc : d_count (e_d ee) = nI (g 4) := by obtain ⟨p, l, le, nw, od, en, wr, wi, rfl, _⟩ := h; rfl
  have hr : J_X7_requireCode ee x = J_X7_requireIndex x (nI (g 4)) := by
    unfold J_X7_requireCode
    rw [hdc]
    cases J_X7_requireIndex x (nI (g 4)) with
    | none => rfl
    | some z => cases z <;> rfl
  have hm : ∀ b, b ≤ 1 → J_X8_in x (nI 0) (nI (g 4) - nI 1) = some (nI b) → J_X8_isCode (nW g) x = some (nI b) := fun b hb e => by
    unfold J_X8_isCode
    rw [l_4, rd_W 1726 g 4 (by omega) (by omega)]
    simp only [Option.bind_some]
    rw [l_0, l_1, e]
    exact if_pos (and1 b hb)
  rw [hr]
  rcases ix_cases x (g 4) (by omega) with ⟨p, hp, hx, a, b⟩ | ⟨a, b⟩
  · exact .inl ⟨p, hp, hx, a, hm 1 (by omega) b⟩
  · exact .inr ⟨a, hm 0 (by omega) b⟩
theorem t_phraseLength (fu : Nat) (hf : 20000 ≤ fu) (t : Int32) {ee : ES} {g : Nat → Nat} (h : RE ee g) (hg : GOOD g) (f_tape f_dec : Nat → Int32) (oo : OS) (tt : TS) (rr : RS) (sw : SS) (hh : HS) (x : Int32) :
    (∃ v, J_X7_phraseLength f_tape f_dec ee oo tt rr sw hh x = some (.inl v) ∧ J_X8_phraseLength fu t (nW g) x = some (v, nI 0)) ∨
    (J_X7_phraseLength f_tape f_dec ee oo tt rr sw hh x = some (.inr "java/lang/IndexOutOfBoundsException") ∧ J_X8_phraseLength fu t (nW g) x = some (nI 0, nI 1)) := by
  unfold J_X7_phraseLength J_X8_phraseLength
  rcases code_cases h hg x with ⟨c, hc, rfl, a, b⟩ | ⟨a, b⟩
  · rw [a, b]
    obtain ⟨p, l, le, nw, od, en, wr, wi, rfl, hr, hen, hww⟩ := h
    have h4 := hg.1.1.1.1.2.2.2.2.2
    have e1 := k_lengthOf p l le nw od (g 0) (g 1) (g 4) (gP g) (gL g) hr h4 c hc
    refine .inl ⟨nI (gph g c).length, ?_, ?_⟩
    · simp (disch := first | omega | assumption) only [tr_l, e_d, e_policy, e_limit, e_phrase, e_encoded, e_encodedLength, e_written, e_widths, e_writtenLength, e_bits, e_clears, e_recentCodes, e_recentSymbols, e_recentBits, mkE, eN, nq_neg, nq_fix, nq_sub1, nq_addN, nq_add, nq_mul, nq_sub, nq_ltN, nq_Nlt, nq_leN, nq_Nle, nq_lt, nq_le, nq_eq, nq_div, nq_pow, nq_tn, rd_W, wr_W, nS_eq, nS_ne, Option.bind_some, Option.bind_none, ↓reduceIte, Bool.false_eq_true, Nat.reduceEqDiff, Nat.reduceLT, Nat.reduceLeDiff, Nat.reduceAdd, Nat.reduceMul, Nat.reduceSub, Nat.reducePow, Nat.add_sub_cancel, Nat.zero_le, Nat.not_lt_zero, Nat.le_refl, Nat.lt_irrefl, l_0, l_1, l_2, l_3, l_4, l_5, l_6, l_7, l_8, l_9, l_10, l_13, l_14, l_16, l_20, l_24, l_26, l_30, l_31, l_32, l_48, l_57, l_59, l_63, l_96, l_97, l_100, l_122, l_200, l_255, l_256, l_270, l_400, l_429, l_526, l_780, l_800, l_926, l_1726, l_12082, e1]
      rfl
    · simp (disch := first | omega | assumption) only [nq_neg, nq_fix, nq_sub1, nq_addN, nq_add, nq_mul, nq_sub, nq_ltN, nq_Nlt, nq_leN, nq_Nle, nq_lt, nq_le, nq_eq, nq_div, nq_pow, nq_tn, rd_W, wr_W, nS_eq, nS_ne, Option.bind_some, Option.bind_none, ↓reduceIte, Bool.false_eq_true, Nat.reduceEqDiff, Nat.reduceLT, Nat.reduceLeDiff, Nat.reduceAdd, Nat.reduceMul, Nat.reduceSub, Nat.reducePow, Nat.add_sub_cancel, Nat.zero_le, Nat.not_lt_zero, Nat.le_refl, Nat.lt_irrefl, l_0, l_1, l_2, l_3, l_4, l_5, l_6, l_7, l_8, l_9, l_10, l_13, l_14, l_16, l_20, l_24, l_26, l_30, l_31, l_32, l_48, l_57, l_59, l_63, l_96, l_97, l_100, l_122, l_200, l_255, l_256, l_270, l_400, l_429, l_526, l_780, l_800, l_926, l_1726, l_12082, m_lengthOf fu g hg.1.1.1 (by omega) c hc, m_told]
  · rw [a, b]
    exact .inr ⟨rfl, rfl⟩
theorem t_prefixOf (t : Int32) {ee : ES} {g : Nat → Nat} (h : RE ee g) (hg : GOOD g) (f_tape f_dec : Nat → Int32) (oo : OS) (tt : TS) (rr : RS) (sw : SS) (hh : HS) (x : Int32) :
    (∃ v, J_X7_prefixOf f_tape f_dec ee oo tt rr sw hh x = some (.inl v) ∧ J_X8_prefixOf t (nW g) x = some (v, nI 0)) ∨
    (J_X7_prefixOf f_tape f_dec ee oo tt rr sw hh x = some (.inr "java/lang/IndexOutOfBoundsException") ∧ J_X8_prefixOf t (nW g) x = some (nI 0, nI 1)) ∨
    (J_X7_prefixOf f_tape f_dec ee oo tt rr sw hh x = some (.inr "java/util/NoSuchElementException") ∧ J_X8_prefixOf t (nW g) x = some (nI 0, nI 2)) := by
  unfold J_X7_prefixOf J_X8_prefixOf
  rcases code_cases h hg x with ⟨c, hc, rfl, a, b⟩ | ⟨a, b⟩
  · rw [a, b]
    obtain ⟨p, l, le, nw, od, en, wr, wi, rfl, hr, hen, hww⟩ := h
    obtain ⟨⟨hz2, h0, hw3, h1, hz, h4⟩, wd, ud⟩ := id hg.1.1.1
    have e1 := k_lengthOf p l le nw od (g 0) (g 1) (g 4) (gP g) (gL g) hr h4 c hc
    have e2 := k_at 256 p c (by omega) (by omega)
    have hl := ph_le wd c hc
    rw [m_isFirst g h0 c (by omega)]
    by_cases d : c ≤ g 0
    · refine .inr (.inr ⟨?_, ?_⟩)
      · have : ¬ (2 ≤ (ph (g 0) (gP g) (gL g) c).length) := by
          rcases Nat.lt_or_ge c (g 0) with h | h
          · rw [ph_lt h]; simp
          · rw [show c = g 0 by omega, ph_z]; simp
        simp (disch := first | omega | assumption) only [tr_l, e_d, e_policy, e_limit, e_phrase, e_encoded, e_encodedLength, e_written, e_widths, e_writtenLength, e_bits, e_clears, e_recentCodes, e_recentSymbols, e_recentBits, mkE, eN, nq_neg, nq_fix, nq_sub1, nq_addN, nq_add, nq_mul, nq_sub, nq_ltN, nq_Nlt, nq_leN, nq_Nle, nq_lt, nq_le, nq_eq, nq_div, nq_pow, nq_tn, rd_W, wr_W, nS_eq, nS_ne, Option.bind_some, Option.bind_none, ↓reduceIte, Bool.false_eq_true, Nat.reduceEqDiff, Nat.reduceLT, Nat.reduceLeDiff, Nat.reduceAdd, Nat.reduceMul, Nat.reduceSub, Nat.reducePow, Nat.add_sub_cancel, Nat.zero_le, Nat.not_lt_zero, Nat.le_refl, Nat.lt_irrefl, l_0, l_1, l_2, l_3, l_4, l_5, l_6, l_7, l_8, l_9, l_10, l_13, l_14, l_16, l_20, l_24, l_26, l_30, l_31, l_32, l_48, l_57, l_59, l_63, l_96, l_97, l_100, l_122, l_200, l_255, l_256, l_270, l_400, l_429, l_526, l_780, l_800, l_926, l_1726, l_12082, e1, this]
      · simp (disch := first | omega | assumption) only [nq_neg, nq_fix, nq_sub1, nq_addN, nq_add, nq_mul, nq_sub, nq_ltN, nq_Nlt, nq_leN, nq_Nle, nq_lt, nq_le, nq_eq, nq_div, nq_pow, nq_tn, rd_W, wr_W, nS_eq, nS_ne, Option.bind_some, Option.bind_none, ↓reduceIte, Bool.false_eq_true, Nat.reduceEqDiff, Nat.reduceLT, Nat.reduceLeDiff, Nat.reduceAdd, Nat.reduceMul, Nat.reduceSub, Nat.reducePow, Nat.add_sub_cancel, Nat.zero_le, Nat.not_lt_zero, Nat.le_refl, Nat.lt_irrefl, l_0, l_1, l_2, l_3, l_4, l_5, l_6, l_7, l_8, l_9, l_10, l_13, l_14, l_16, l_20, l_24, l_26, l_30, l_31, l_32, l_48, l_57, l_59, l_63, l_96, l_97, l_100, l_122, l_200, l_255, l_256, l_270, l_400, l_429, l_526, l_780, l_800, l_926, l_1726, l_12082, d, m_throwing]
    · have : 2 ≤ (ph (g 0) (gP g) (gL g) c).length := by
        rw [ph_gt wd (by omega) hc, List.length_append]
        have := ph_pos wd (show gP g c < g 4 by have := wd c (by omega) hc; omega) (wd c (by omega) hc).2.1
        simp only [List.length_cons, List.length_nil]
        omega
      rw [hr.2.1 c (by omega) hc] at e2
      refine .inl ⟨nI (gP g c), ?_, ?_⟩
      · simp (disch := first | omega | assumption) only [tr_l, e_d, e_policy, e_limit, e_phrase, e_encoded, e_encodedLength, e_written, e_widths, e_writtenLength, e_bits, e_clears, e_recentCodes, e_recentSymbols, e_recentBits, mkE, eN, nq_neg, nq_fix, nq_sub1, nq_addN, nq_add, nq_mul, nq_sub, nq_ltN, nq_Nlt, nq_leN, nq_Nle, nq_lt, nq_le, nq_eq, nq_div, nq_pow, nq_tn, rd_W, wr_W, nS_eq, nS_ne, Option.bind_some, Option.bind_none, ↓reduceIte, Bool.false_eq_true, Nat.reduceEqDiff, Nat.reduceLT, Nat.reduceLeDiff, Nat.reduceAdd, Nat.reduceMul, Nat.reduceSub, Nat.reducePow, Nat.add_sub_cancel, Nat.zero_le, Nat.not_lt_zero, Nat.le_refl, Nat.lt_irrefl, l_0, l_1, l_2, l_3, l_4, l_5, l_6, l_7, l_8, l_9, l_10, l_13, l_14, l_16, l_20, l_24, l_26, l_30, l_31, l_32, l_48, l_57, l_59, l_63, l_96, l_97, l_100, l_122, l_200, l_255, l_256, l_270, l_400, l_429, l_526, l_780, l_800, l_926, l_1726, l_12082, e1, this]
        simp (disch := first | omega | assumption) only [d_prefix, d_lastSymbol, d_lengths, d_newest, d_older, d_alphabet, d_widest, d_count, mkD, dN, e2, nq_neg, nq_fix, nq_sub1, nq_addN, nq_add, nq_mul, nq_sub, nq_ltN, nq_Nlt, nq_leN, nq_Nle, nq_lt, nq_le, nq_eq, nq_div, nq_pow, nq_tn, rd_W, wr_W, nS_eq, nS_ne, Option.bind_some, Option.bind_none, ↓reduceIte, Bool.false_eq_true, Nat.reduceEqDiff, Nat.reduceLT, Nat.reduceLeDiff, Nat.reduceAdd, Nat.reduceMul, Nat.reduceSub, Nat.reducePow, Nat.add_sub_cancel, Nat.zero_le, Nat.not_lt_zero, Nat.le_refl, Nat.lt_irrefl, l_0, l_1, l_2, l_3, l_4, l_5, l_6, l_7, l_8, l_9, l_10, l_13, l_14, l_16, l_20, l_24, l_26, l_30, l_31, l_32, l_48, l_57, l_59, l_63, l_96, l_97, l_100, l_122, l_200, l_255, l_256, l_270, l_400, l_429, l_526, l_780, l_800, l_926, l_1726, l_12082]
      · simp (disch := first | omega | assumption) only [nq_neg, nq_fix, nq_sub1, nq_addN, nq_add, nq_mul, nq_sub, nq_ltN, nq_Nlt, nq_leN, nq_Nle, nq_lt, nq_le, nq_eq, nq_div, nq_pow, nq_tn, rd_W, wr_W, nS_eq, nS_ne, Option.bind_some, Option.bind_none, ↓reduceIte, Bool.false_eq_true, Nat.reduceEqDiff, Nat.reduceLT, Nat.reduceLeDiff, Nat.reduceAdd, Nat.reduceMul, Nat.reduceSub, Nat.reducePow, Nat.add_sub_cancel, Nat.zero_le, Nat.not_lt_zero, Nat.le_refl, Nat.lt_irrefl, l_0, l_1, l_2, l_3, l_4, l_5, l_6, l_7, l_8, l_9, l_10, l_13, l_14, l_16, l_20, l_24, l_26, l_30, l_31, l_32, l_48, l_57, l_59, l_63, l_96, l_97, l_100, l_122, l_200, l_255, l_256, l_270, l_400, l_429, l_526, l_780, l_800, l_926, l_1726, l_12082, d, m_told]
        rfl
  · rw [a, b]
    exact .inr (.inl ⟨rfl, rfl⟩)
/-! the looks, both sides: phrases, extensions -/
theorem m_sym_b (fu : Nat) (g : Nat → Nat) (hd : DI g) (i : Nat) : ∀ n c, c < g 4 → c ≠ g 0 → c < n → i < (gph g c).length → J_X8_symbolOf_b13 fu (nW g) n (nI c) (nI ((gph g c).length - 1 - i)) = some (nI ((gph g c).getD i 0)) := by
  intro n
  obtain ⟨⟨_, h0, _, h1, hz, h4⟩, wd, ud⟩ := id hd
  induction n with
  | zero => intro c _ _ h; omega
  | succ n ih =>
    intro c hc hcz hn hi
    have hl := ph_le wd c hc
    unfold J_X8_symbolOf_b13
    rw [m_isFirst g h0 c (by omega)]
    rcases Nat.lt_trichotomy c (g 0) with h3 | h3 | h3
    · rw [show gph g c = [c] from ph_lt h3] at hi ⊢
      simp only [List.length_cons, List.length_nil] at hi ⊢
      have : i = 0 := by omega
      subst this
      simp (disch := first | omega | assumption) only [nq_neg, nq_fix, nq_sub1, nq_addN, nq_add, nq_mul, nq_sub, nq_ltN, nq_Nlt, nq_leN, nq_Nle, nq_lt, nq_le, nq_eq, nq_div, nq_pow, nq_tn, rd_W, wr_W, nS_eq, nS_ne, Option.bind_some, Option.bind_none, ↓reduceIte, Bool.false_eq_true, Nat.reduceEqDiff, Nat.reduceLT, Nat.reduceLeDiff, Nat.reduceAdd, Nat.reduceMul, Nat.reduceSub, Nat.reducePow, Nat.add_sub_cancel, Nat.zero_le, Nat.not_lt_zero, Nat.le_refl, Nat.lt_irrefl, l_0, l_1, l_2, l_3, l_4, l_5, l_6, l_7, l_8, l_9, l_10, l_13, l_14, l_16, l_20, l_24, l_26, l_30, l_31, l_32, l_48, l_57, l_59, l_63, l_96, l_97, l_100, l_122, l_200, l_255, l_256, l_270, l_400, l_429, l_526, l_780, l_800, l_926, l_1726, l_12082, show c ≤ g 0 by omega]
      rfl
    · exact absurd h3 hcz
    · have h5 := wd c h3 hc
      have hg : gph g c = gph g (gP g c) ++ [gL g c] := ph_gt wd h3 hc
      have h6 := ih (gP g c) (by omega) h5.2.1 (by omega)
      unfold gph at hg hi hl h6 ⊢
      rw [hg, List.length_append] at hi hl ⊢
      simp only [List.length_cons, List.length_nil] at hi hl ⊢
      by_cases c1 : i = (ph (g 0) (gP g) (gL g) (gP g c)).length
      · rw [c1, gd_r]
        rw [show (ph (g 0) (gP g) (gL g) (gP g c)).length + (0 + 1) - 1 - (ph (g 0) (gP g) (gL g) (gP g c)).length = 0 by omega]
        simp (disch := first | omega | assumption) only [nq_neg, nq_fix, nq_sub1, nq_addN, nq_add, nq_mul, nq_sub, nq_ltN, nq_Nlt, nq_leN, nq_Nle, nq_lt, nq_le, nq_eq, nq_div, nq_pow, nq_tn, rd_W, wr_W, nS_eq, nS_ne, Option.bind_some, Option.bind_none, ↓reduceIte, Bool.false_eq_true, Nat.reduceEqDiff, Nat.reduceLT, Nat.reduceLeDiff, Nat.reduceAdd, Nat.reduceMul, Nat.reduceSub, Nat.reducePow, Nat.add_sub_cancel, Nat.zero_le, Nat.not_lt_zero, Nat.le_refl, Nat.lt_irrefl, l_0, l_1, l_2, l_3, l_4, l_5, l_6, l_7, l_8, l_9, l_10, l_13, l_14, l_16, l_20, l_24, l_26, l_30, l_31, l_32, l_48, l_57, l_59, l_63, l_96, l_97, l_100, l_122, l_200, l_255, l_256, l_270, l_400, l_429, l_526, l_780, l_800, l_926, l_1726, l_12082, show ¬ (c ≤ g 0) by omega]
        rfl
      · rw [gd_l _ _ _ (by omega)]
        rw [show (ph (g 0) (gP g) (gL g) (gP g c)).length + (0 + 1) - 1 - i = (ph (g 0) (gP g) (gL g) (gP g c)).length - 1 - i + 1 by omega]
        simp (disch := first | omega | assumption) only [nq_neg, nq_fix, nq_sub1, nq_addN, nq_add, nq_mul, nq_sub, nq_ltN, nq_Nlt, nq_leN, nq_Nle, nq_lt, nq_le, nq_eq, nq_div, nq_pow, nq_tn, rd_W, wr_W, nS_eq, nS_ne, Option.bind_some, Option.bind_none, ↓reduceIte, Bool.false_eq_true, Nat.reduceEqDiff, Nat.reduceLT, Nat.reduceLeDiff, Nat.reduceAdd, Nat.reduceMul, Nat.reduceSub, Nat.reducePow, Nat.add_sub_cancel, Nat.zero_le, Nat.not_lt_zero, Nat.le_refl, Nat.lt_irrefl, l_0, l_1, l_2, l_3, l_4, l_5, l_6, l_7, l_8, l_9, l_10, l_13, l_14, l_16, l_20, l_24, l_26, l_30, l_31, l_32, l_48, l_57, l_59, l_63, l_96, l_97, l_100, l_122, l_200, l_255, l_256, l_270, l_400, l_429, l_526, l_780, l_800, l_926, l_1726, l_12082, show ¬ ((ph (g 0) (gP g) (gL g) (gP g c)).length - 1 - i + 1 ≤ 0) by omega]
        exact h6 (by omega)
theorem m_symbolOf (fu : Nat) (hf : 1000 ≤ fu) (g : Nat → Nat) (hd : DI g) (c i : Nat) (hc : c < g 4) (hcz : c ≠ g 0) (hi : i < (gph g c).length) : J_X8_symbolOf fu (nW g) (nI c) (nI i) = some (nI ((gph g c).getD i 0)) := by
  obtain ⟨⟨_, h0, _, h1, hz, h4⟩, wd, ud⟩ := id hd
  have hl := ph_le wd c hc
  have hp := ph_pos wd hc hcz
  unfold gph at hi
  unfold J_X8_symbolOf
  rw [m_lengthOf fu g hd (by omega) c hc]
  have := m_sym_b fu g hd i fu c hc hcz (by omega) hi
  unfold gph at this ⊢
  simp (disch := first | omega | assumption) only [nq_neg, nq_fix, nq_sub1, nq_addN, nq_add, nq_mul, nq_sub, nq_ltN, nq_Nlt, nq_leN, nq_Nle, nq_lt, nq_le, nq_eq, nq_div, nq_pow, nq_tn, rd_W, wr_W, nS_eq, nS_ne, Option.bind_some, Option.bind_none, ↓reduceIte, Bool.false_eq_true, Nat.reduceEqDiff, Nat.reduceLT, Nat.reduceLeDiff, Nat.reduceAdd, Nat.reduceMul, Nat.reduceSub, Nat.reducePow, Nat.add_sub_cancel, Nat.zero_le, Nat.not_lt_zero, Nat.le_refl, Nat.lt_irrefl, l_0, l_1, l_2, l_3, l_4, l_5, l_6, l_7, l_8, l_9, l_10, l_13, l_14, l_16, l_20, l_24, l_26, l_30, l_31, l_32, l_48, l_57, l_59, l_63, l_96, l_97, l_100, l_122, l_200, l_255, l_256, l_270, l_400, l_429, l_526, l_780, l_800, l_926, l_1726, l_12082]
  exact this
theorem t_phraseSymbol (fu : Nat) (hf : 20000 ≤ fu) (t : Int32) {ee : ES} {g : Nat → Nat} (h : RE ee g) (hg : GOOD g) (f_tape f_dec : Nat → Int32) (oo : OS) (tt : TS) (rr : RS) (sw : SS) (hh : HS) (x y : Int32) :
    (∃ v, J_X7_phraseSymbol fu f_tape f_dec ee oo tt rr sw hh x y = some (.inl v) ∧ J_X8_phraseSymbol fu t (nW g) x y = some (v, nI 0)) ∨
    (J_X7_phraseSymbol fu f_tape f_dec ee oo tt rr sw hh x y = some (.inr "java/lang/IndexOutOfBoundsException") ∧ J_X8_phraseSymbol fu t (nW g) x y = some (nI 0, nI 1)) := by
  unfold J_X7_phraseSymbol J_X8_phraseSymbol
  rcases code_cases h hg x with ⟨c, hc, rfl, a, b⟩ | ⟨a, b⟩
  · rw [a, b]
    obtain ⟨p, l, le, nw, od, en, wr, wi, rfl, hr, hen, hww⟩ := h
    obtain ⟨⟨hz2, h0, hw3, h1, hz, h4⟩, wd, ud⟩ := id hg.1.1.1
    have e1 := k_lengthOf p l le nw od (g 0) (g 1) (g 4) (gP g) (gL g) hr h4 c hc
    have hl := ph_le wd c hc
    have em := m_lengthOf fu g hg.1.1.1 (by omega) c hc
    rcases ix_cases y (gph g c).length (by unfold gph; omega) with ⟨i, hi, rfl, a2, b2⟩ | ⟨a2, b2⟩
    · have hcz : c ≠ g 0 := fun e => by
        rw [e, show gph g (g 0) = [] from ph_z] at hi
        simp only [List.length_nil] at hi
        omega
      refine .inl ⟨nI ((gph g c).getD i 0), ?_, ?_⟩
      · have e2 := k_symbolOf fu (by omega) p l le nw od (g 0) (g 1) (g 4) (gP g) (gL g) hr wd h4 c i hc hcz hi
        unfold gph at a2
        simp (disch := first | omega | assumption) only [tr_l, e_d, e_policy, e_limit, e_phrase, e_encoded, e_encodedLength, e_written, e_widths, e_writtenLength, e_bits, e_clears, e_recentCodes, e_recentSymbols, e_recentBits, mkE, eN, nq_neg, nq_fix, nq_sub1, nq_addN, nq_add, nq_mul, nq_sub, nq_ltN, nq_Nlt, nq_leN, nq_Nle, nq_lt, nq_le, nq_eq, nq_div, nq_pow, nq_tn, rd_W, wr_W, nS_eq, nS_ne, Option.bind_some, Option.bind_none, ↓reduceIte, Bool.false_eq_true, Nat.reduceEqDiff, Nat.reduceLT, Nat.reduceLeDiff, Nat.reduceAdd, Nat.reduceMul, Nat.reduceSub, Nat.reducePow, Nat.add_sub_cancel, Nat.zero_le, Nat.not_lt_zero, Nat.le_refl, Nat.lt_irrefl, l_0, l_1, l_2, l_3, l_4, l_5, l_6, l_7, l_8, l_9, l_10, l_13, l_14, l_16, l_20, l_24, l_26, l_30, l_31, l_32, l_48, l_57, l_59, l_63, l_96, l_97, l_100, l_122, l_200, l_255, l_256, l_270, l_400, l_429, l_526, l_780, l_800, l_926, l_1726, l_12082, e1, a2, e2]
        rfl
      · have b3 : J_X8_in (nI i) (0 : Int32) (nI (gph g c).length - (1 : Int32)) = some (nI 1) := b2
        simp only [Option.bind_some]
        rw [if_neg (show ¬ (nI 1 = 0) by decide), em]
        simp only [Option.bind_some]
        rw [b3]
        simp only [Option.bind_some]
        rw [if_neg (show ¬ (nI 1 = 0) by decide), m_symbolOf fu (by omega) g hg.1.1.1 c i hc hcz hi]
        rfl
    · refine .inr ⟨?_, ?_⟩
      · unfold gph at a2
        simp (disch := first | omega | assumption) only [tr_l, tr_r, e_d, e_policy, e_limit, e_phrase, e_encoded, e_encodedLength, e_written, e_widths, e_writtenLength, e_bits, e_clears, e_recentCodes, e_recentSymbols, e_recentBits, mkE, eN, nq_neg, nq_fix, nq_sub1, nq_addN, nq_add, nq_mul, nq_sub, nq_ltN, nq_Nlt, nq_leN, nq_Nle, nq_lt, nq_le, nq_eq, nq_div, nq_pow, nq_tn, rd_W, wr_W, nS_eq, nS_ne, Option.bind_some, Option.bind_none, ↓reduceIte, Bool.false_eq_true, Nat.reduceEqDiff, Nat.reduceLT, Nat.reduceLeDiff, Nat.reduceAdd, Nat.reduceMul, Nat.reduceSub, Nat.reducePow, Nat.add_sub_cancel, Nat.zero_le, Nat.not_lt_zero, Nat.le_refl, Nat.lt_irrefl, l_0, l_1, l_2, l_3, l_4, l_5, l_6, l_7, l_8, l_9, l_10, l_13, l_14, l_16, l_20, l_24, l_26, l_30, l_31, l_32, l_48, l_57, l_59, l_63, l_96, l_97, l_100, l_122, l_200, l_255, l_256, l_270, l_400, l_429, l_526, l_780, l_800, l_926, l_1726, l_12082, e1, a2]
      · have b3 : J_X8_in y (0 : Int32) (nI (gph g c).length - (1 : Int32)) = some (nI 0) := b2
        simp only [Option.bind_some]
        rw [if_neg (show ¬ (nI 1 = 0) by decide), em]
        simp only [Option.bind_some]
        rw [b3]
        rfl
  · rw [a, b]
    exact .inr ⟨rfl, rfl⟩
theorem t_encodedSymbol (t : Int32) {ee : ES} {g : Nat → Nat} (h : RE ee g) (hg : GOOD g) (x : Int32) :
    (∃ v, J_X7_encodedSymbol ee x = some (.inl v) ∧ J_X8_encodedSymbol t (nW g) x = some (v, nI 0)) ∨
    (J_X7_encodedSymbol ee x = some (.inr "java/lang/IndexOutOfBoundsException") ∧ J_X8_encodedSymbol t (nW g) x = some (nI 0, nI 1)) := by
  have h6 := ((WB_iff g).mp hg.1).2.2.2.1
  obtain ⟨p, l, le, nw, od, en, wr, wi, rfl, hr, hen, hww⟩ := h
  have e6 := rd_W 1726 g 6 (by omega) (by omega)
  unfold J_X7_encodedSymbol J_X8_encodedSymbol
  rw [l_6, e6]
  simp only [Option.bind_some, e_d, e_policy, e_limit, e_phrase, e_encoded, e_encodedLength, e_written, e_widths, e_writtenLength, e_bits, e_clears, e_recentCodes, e_recentSymbols, e_recentBits, mkE, eN]
  rcases ix_cases x (g 6) (by omega) with ⟨i, hi, rfl, a2, b2⟩ | ⟨a2, b2⟩
  · have b3 : J_X8_in (nI i) (0 : Int32) (nI (g 6) - (1 : Int32)) = some (nI 1) := b2
    have e2 := k_at 400 en i (by omega) (by omega)
    rw [hen i hi] at e2
    refine .inl ⟨nI (g (526 + i)), ?_, ?_⟩
    · rw [a2]
      simp only [Option.bind_some, tr_l, e2]
    · rw [b3]
      simp only [Option.bind_some]
      rw [if_neg (show ¬ (nI 1 = 0) by decide)]
      simp (disch := first | omega | assumption) only [nq_neg, nq_fix, nq_sub1, nq_addN, nq_add, nq_mul, nq_sub, nq_ltN, nq_Nlt, nq_leN, nq_Nle, nq_lt, nq_le, nq_eq, nq_div, nq_pow, nq_tn, rd_W, wr_W, nS_eq, nS_ne, Option.bind_some, Option.bind_none, ↓reduceIte, Bool.false_eq_true, Nat.reduceEqDiff, Nat.reduceLT, Nat.reduceLeDiff, Nat.reduceAdd, Nat.reduceMul, Nat.reduceSub, Nat.reducePow, Nat.add_sub_cancel, Nat.zero_le, Nat.not_lt_zero, Nat.le_refl, Nat.lt_irrefl, l_0, l_1, l_2, l_3, l_4, l_5, l_6, l_7, l_8, l_9, l_10, l_13, l_14, l_16, l_20, l_24, l_26, l_30, l_31, l_32, l_48, l_57, l_59, l_63, l_96, l_97, l_100, l_122, l_200, l_255, l_256, l_270, l_400, l_429, l_526, l_780, l_800, l_926, l_1726, l_12082, m_told]
  · have b3 : J_X8_in x (0 : Int32) (nI (g 6) - (1 : Int32)) = some (nI 0) := b2
    refine .inr ⟨?_, ?_⟩
    · rw [a2]
      rfl
    · rw [b3]
      rfl
theorem wr_cases (g : Nat → Nat) (h7 : g 7 ≤ 800) (x : Int32) :
    (∃ p, p < g 7 ∧ x = nI p ∧ J_X7_requireIndex x (nI (g 7)) = some (.inl ()) ∧ J_X8_isWritten (nW g) x = some (nI 1)) ∨
    (J_X7_requireIndex x (nI (g 7)) = some (.inr "java/lang/IndexOutOfBoundsException") ∧ J_X8_isWritten (nW g) x = some (nI 0)) := by
  have hm : ∀ b, b ≤ 1 → J_X8_in x (nI 0) (nI (g 7) - nI 1) = some (nI b) → J_X8_isWritten (nW g) x = some (nI b) := fun b hb e => by
    unfold J_X8_isWritten
    rw [l_7, rd_W 1726 g 7 (by omega) (by omega)]
    simp only [Option.bind_some]
    rw [l_0, l_1, e]
    exact if_pos (and1 b hb)
  rcases ix_cases x (g 7) (by omega) with ⟨p, hp, hx, a, b⟩ | ⟨a, b⟩
  · exact .inl ⟨p, hp, hx, a, hm 1 (by omega) b⟩
  · exact .inr ⟨a, hm 0 (by omega) b⟩
theorem t_written (t : Int32) {ee : ES} {g : Nat → Nat} (h : RE ee g) (hg : GOOD g) (x : Int32) :
    ((∃ v, J_X7_writtenCode ee x = some (.inl v) ∧ J_X8_writtenCode t (nW g) x = some (v, nI 0)) ∨
    (J_X7_writtenCode ee x = some (.inr "java/lang/IndexOutOfBoundsException") ∧ J_X8_writtenCode t (nW g) x = some (nI 0, nI 1))) ∧
    ((∃ v, J_X7_writtenWidth ee x = some (.inl v) ∧ J_X8_writtenWidth t (nW g) x = some (v, nI 0)) ∨
    (J_X7_writtenWidth ee x = some (.inr "java/lang/IndexOutOfBoundsException") ∧ J_X8_writtenWidth t (nW g) x = some (nI 0, nI 1))) := by
  have h7 := hg.1.1.2.2.2.1
  have hcc := hg.1.1.2.2.2.2.1
  obtain ⟨p, l, le, nw, od, en, wr, wi, rfl, hr, hen, hww⟩ := h
  unfold J_X7_writtenCode J_X8_writtenCode J_X7_writtenWidth J_X8_writtenWidth
  simp only [e_d, e_policy, e_limit, e_phrase, e_encoded, e_encodedLength, e_written, e_widths, e_writtenLength, e_bits, e_clears, e_recentCodes, e_recentSymbols, e_recentBits, mkE, eN]
  rcases wr_cases g h7 x with ⟨i, hi, rfl, a2, b2⟩ | ⟨a2, b2⟩
  · have e2 := k_at 800 wr i (by omega) (by omega)
    have e3 := k_at 800 wi i (by omega) (by omega)
    rw [(hww i hi).1] at e2
    rw [(hww i hi).2] at e3
    rw [a2, b2]
    refine ⟨.inl ⟨nI (gcd_ g i), ?_, ?_⟩, .inl ⟨nI (gwd_ g i), ?_, ?_⟩⟩
    · simp only [Option.bind_some, tr_l, e2]
    · simp (disch := first | omega | assumption) only [nq_neg, nq_fix, nq_sub1, nq_addN, nq_add, nq_mul, nq_sub, nq_ltN, nq_Nlt, nq_leN, nq_Nle, nq_lt, nq_le, nq_eq, nq_div, nq_pow, nq_tn, rd_W, wr_W, nS_eq, nS_ne, Option.bind_some, Option.bind_none, ↓reduceIte, Bool.false_eq_true, Nat.reduceEqDiff, Nat.reduceLT, Nat.reduceLeDiff, Nat.reduceAdd, Nat.reduceMul, Nat.reduceSub, Nat.reducePow, Nat.add_sub_cancel, Nat.zero_le, Nat.not_lt_zero, Nat.le_refl, Nat.lt_irrefl, l_0, l_1, l_2, l_3, l_4, l_5, l_6, l_7, l_8, l_9, l_10, l_13, l_14, l_16, l_20, l_24, l_26, l_30, l_31, l_32, l_48, l_57, l_59, l_63, l_96, l_97, l_100, l_122, l_200, l_255, l_256, l_270, l_400, l_429, l_526, l_780, l_800, l_926, l_1726, l_12082, m_codeAt g i (by omega) (hcc i hi), m_told]
    · simp only [Option.bind_some, tr_l, e3]
    · simp (disch := first | omega | assumption) only [nq_neg, nq_fix, nq_sub1, nq_addN, nq_add, nq_mul, nq_sub, nq_ltN, nq_Nlt, nq_leN, nq_Nle, nq_lt, nq_le, nq_eq, nq_div, nq_pow, nq_tn, rd_W, wr_W, nS_eq, nS_ne, Option.bind_some, Option.bind_none, ↓reduceIte, Bool.false_eq_true, Nat.reduceEqDiff, Nat.reduceLT, Nat.reduceLeDiff, Nat.reduceAdd, Nat.reduceMul, Nat.reduceSub, Nat.reducePow, Nat.add_sub_cancel, Nat.zero_le, Nat.not_lt_zero, Nat.le_refl, Nat.lt_irrefl, l_0, l_1, l_2, l_3, l_4, l_5, l_6, l_7, l_8, l_9, l_10, l_13, l_14, l_16, l_20, l_24, l_26, l_30, l_31, l_32, l_48, l_57, l_59, l_63, l_96, l_97, l_100, l_122, l_200, l_255, l_256, l_270, l_400, l_429, l_526, l_780, l_800, l_926, l_1726, l_12082, m_widthAt g i (by omega) (hcc i hi), m_told]
  · rw [a2, b2]
    exact ⟨.inr ⟨rfl, rfl⟩, .inr ⟨rfl, rfl⟩⟩
/-! the looks, both sides: counts, restored -/
theorem m_ec_b (fu : Nat) (g : Nat → Nat) (t : Int32) (hd : DI g) (c : Nat) (hc : c < 4294967296) : ∀ n k, g 0 < k → k ≤ g 4 → g 4 < n + k →
    J_X8_extensionCount_b23 fu (nW g) n t (nI c) (nI (kidC (g 0) (gP g) c k)) (nI k) = some (nI (kidC (g 0) (gP g) c (g 4)), nI 0) := by
  intro n
  obtain ⟨⟨_, h0, _, h1, hz, h4⟩, wd, ud⟩ := id hd
  induction n with
  | zero => intro k _ h2 h3; omega
  | succ n ih =>
    intro k hk h2 h3
    unfold J_X8_extensionCount_b23
    by_cases h5 : k = g 4
    · subst h5
      simp (disch := first | omega | assumption) only [nq_neg, nq_fix, nq_sub1, nq_addN, nq_add, nq_mul, nq_sub, nq_ltN, nq_Nlt, nq_leN, nq_Nle, nq_lt, nq_le, nq_eq, nq_div, nq_pow, nq_tn, rd_W, wr_W, nS_eq, nS_ne, Option.bind_some, Option.bind_none, ↓reduceIte, Bool.false_eq_true, Nat.reduceEqDiff, Nat.reduceLT, Nat.reduceLeDiff, Nat.reduceAdd, Nat.reduceMul, Nat.reduceSub, Nat.reducePow, Nat.add_sub_cancel, Nat.zero_le, Nat.not_lt_zero, Nat.le_refl, Nat.lt_irrefl, l_0, l_1, l_2, l_3, l_4, l_5, l_6, l_7, l_8, l_9, l_10, l_13, l_14, l_16, l_20, l_24, l_26, l_30, l_31, l_32, l_48, l_57, l_59, l_63, l_96, l_97, l_100, l_122, l_200, l_255, l_256, l_270, l_400, l_429, l_526, l_780, l_800, l_926, l_1726, l_12082, m_told]
    · have h6 := wd k hk (by omega)
      have h7 := ih (k + 1) (by omega) (by omega) (by omega)
      simp (disch := first | omega | assumption) only [nq_neg, nq_fix, nq_sub1, nq_addN, nq_add, nq_mul, nq_sub, nq_ltN, nq_Nlt, nq_leN, nq_Nle, nq_lt, nq_le, nq_eq, nq_div, nq_pow, nq_tn, rd_W, wr_W, nS_eq, nS_ne, Option.bind_some, Option.bind_none, ↓reduceIte, Bool.false_eq_true, Nat.reduceEqDiff, Nat.reduceLT, Nat.reduceLeDiff, Nat.reduceAdd, Nat.reduceMul, Nat.reduceSub, Nat.reducePow, Nat.add_sub_cancel, Nat.zero_le, Nat.not_lt_zero, Nat.le_refl, Nat.lt_irrefl, l_0, l_1, l_2, l_3, l_4, l_5, l_6, l_7, l_8, l_9, l_10, l_13, l_14, l_16, l_20, l_24, l_26, l_30, l_31, l_32, l_48, l_57, l_59, l_63, l_96, l_97, l_100, l_122, l_200, l_255, l_256, l_270, l_400, l_429, l_526, l_780, l_800, l_926, l_1726, l_12082, show ¬ (g 4 ≤ k) by omega, show g (14 + k) = gP g k from rfl]
      rw [show kidC (g 0) (gP g) c (k + 1) = if g 0 < k ∧ gP g k = c then kidC (g 0) (gP g) c k + 1 else kidC (g 0) (gP g) c k from rfl] at h7
      by_cases c1 : gP g k = c
      · rw [if_pos ⟨hk, c1⟩] at h7
        rw [if_pos c1]
        exact h7
      · rw [if_neg (fun hx => c1 hx.2)] at h7
        rw [if_neg c1]
        exact h7
theorem kidC_lo {z : Nat} {P : Nat → Nat} {c : Nat} : ∀ n, n ≤ z + 1 → kidC z P c n = 0 := by
  intro n
  induction n with
  | zero => intro _; rfl
  | succ n ih =>
    intro h
    rw [show kidC z P c (n + 1) = if z < n ∧ P n = c then kidC z P c n + 1 else kidC z P c n from rfl, if_neg (by omega)]
    exact ih (by omega)
theorem t_extensionCount (fu : Nat) (hf : 20000 ≤ fu) (t : Int32) {ee : ES} {g : Nat → Nat} (h : RE ee g) (hg : GOOD g) (f_tape f_dec : Nat → Int32) (oo : OS) (tt : TS) (rr : RS) (sw : SS) (hh : HS) (x : Int32) :
    (∃ v, J_X7_extensionCount fu f_tape f_dec ee oo tt rr sw hh x = some (.inl v) ∧ J_X8_extensionCount fu t (nW g) x = some (v, nI 0)) ∨
    (J_X7_extensionCount fu f_tape f_dec ee oo tt rr sw hh x = some (.inr "java/lang/IndexOutOfBoundsException") ∧ J_X8_extensionCount fu t (nW g) x = some (nI 0, nI 1)) := by
  unfold J_X7_extensionCount J_X8_extensionCount J_X8_clear
  rcases code_cases h hg x with ⟨c, hc, rfl, a, b⟩ | ⟨a, b⟩
  · rw [a, b]
    obtain ⟨p, l, le, nw, od, en, wr, wi, rfl, hr, hen, hww⟩ := h
    obtain ⟨⟨hz2, h0, hw3, h1, hz, h4⟩, wd, ud⟩ := id hg.1.1.1
    have e1 := k_countLonger fu (by omega) p l le nw od (g 0) (g 1) (g 4) (gP g) (gL g) hr wd ud (by omega) h4 c hc
    have e2 := m_ec_b fu g t hg.1.1.1 c (by omega) fu (g 0 + 1) (by omega) (by omega) (by omega)
    rw [kidC_lo _ (Nat.le_refl _)] at e2
    refine .inl ⟨nI (kidC (g 0) (gP g) c (g 4)), ?_, ?_⟩
    · simp (disch := first | omega | assumption) only [tr_l, e_d, e_policy, e_limit, e_phrase, e_encoded, e_encodedLength, e_written, e_widths, e_writtenLength, e_bits, e_clears, e_recentCodes, e_recentSymbols, e_recentBits, mkE, eN, nq_neg, nq_fix, nq_sub1, nq_addN, nq_add, nq_mul, nq_sub, nq_ltN, nq_Nlt, nq_leN, nq_Nle, nq_lt, nq_le, nq_eq, nq_div, nq_pow, nq_tn, rd_W, wr_W, nS_eq, nS_ne, Option.bind_some, Option.bind_none, ↓reduceIte, Bool.false_eq_true, Nat.reduceEqDiff, Nat.reduceLT, Nat.reduceLeDiff, Nat.reduceAdd, Nat.reduceMul, Nat.reduceSub, Nat.reducePow, Nat.add_sub_cancel, Nat.zero_le, Nat.not_lt_zero, Nat.le_refl, Nat.lt_irrefl, l_0, l_1, l_2, l_3, l_4, l_5, l_6, l_7, l_8, l_9, l_10, l_13, l_14, l_16, l_20, l_24, l_26, l_30, l_31, l_32, l_48, l_57, l_59, l_63, l_96, l_97, l_100, l_122, l_200, l_255, l_256, l_270, l_400, l_429, l_526, l_780, l_800, l_926, l_1726, l_12082, e1]
    · simp (disch := first | omega | assumption) only [nq_neg, nq_fix, nq_sub1, nq_addN, nq_add, nq_mul, nq_sub, nq_ltN, nq_Nlt, nq_leN, nq_Nle, nq_lt, nq_le, nq_eq, nq_div, nq_pow, nq_tn, rd_W, wr_W, nS_eq, nS_ne, Option.bind_some, Option.bind_none, ↓reduceIte, Bool.false_eq_true, Nat.reduceEqDiff, Nat.reduceLT, Nat.reduceLeDiff, Nat.reduceAdd, Nat.reduceMul, Nat.reduceSub, Nat.reducePow, Nat.add_sub_cancel, Nat.zero_le, Nat.not_lt_zero, Nat.le_refl, Nat.lt_irrefl, l_0, l_1, l_2, l_3, l_4, l_5, l_6, l_7, l_8, l_9, l_10, l_13, l_14, l_16, l_20, l_24, l_26, l_30, l_31, l_32, l_48, l_57, l_59, l_63, l_96, l_97, l_100, l_122, l_200, l_255, l_256, l_270, l_400, l_429, l_526, l_780, l_800, l_926, l_1726, l_12082]
      exact e2
  · rw [a, b]
    exact .inr ⟨rfl, rfl⟩
def cW (f : Nat → Nat) (c : Nat) : Nat → Nat
| 0 => 0
| n + 1 => if f n = c then cW f c n + 1 else cW f c n
theorem m_us_b (fu : Nat) (g : Nat → Nat) (t : Int32) (h7 : g 7 ≤ 800) (hcc : ∀ i, i < g 7 → g (926 + i) < 4096) (c : Nat) (hc : c < 4294967296) : ∀ n k, k ≤ g 7 → g 7 < n + k →
    J_X8_usesOf_b18 fu (nW g) n t (nI c) (nI (cW (gcd_ g) c k)) (nI k) = some (nI (cW (gcd_ g) c (g 7)), nI 0) := by
  intro n
  induction n with
  | zero => intro k h2 h3; omega
  | succ n ih =>
    intro k h2 h3
    unfold J_X8_usesOf_b18
    by_cases h5 : k = g 7
    · subst h5
      simp (disch := first | omega | assumption) only [nq_neg, nq_fix, nq_sub1, nq_addN, nq_add, nq_mul, nq_sub, nq_ltN, nq_Nlt, nq_leN, nq_Nle, nq_lt, nq_le, nq_eq, nq_div, nq_pow, nq_tn, rd_W, wr_W, nS_eq, nS_ne, Option.bind_some, Option.bind_none, ↓reduceIte, Bool.false_eq_true, Nat.reduceEqDiff, Nat.reduceLT, Nat.reduceLeDiff, Nat.reduceAdd, Nat.reduceMul, Nat.reduceSub, Nat.reducePow, Nat.add_sub_cancel, Nat.zero_le, Nat.not_lt_zero, Nat.le_refl, Nat.lt_irrefl, l_0, l_1, l_2, l_3, l_4, l_5, l_6, l_7, l_8, l_9, l_10, l_13, l_14, l_16, l_20, l_24, l_26, l_30, l_31, l_32, l_48, l_57, l_59, l_63, l_96, l_97, l_100, l_122, l_200, l_255, l_256, l_270, l_400, l_429, l_526, l_780, l_800, l_926, l_1726, l_12082, m_told]
    · have h6 := hcc k (by omega)
      have h8 := ih (k + 1) (by omega) (by omega)
      have h9 : gcd_ g k < 4096 := by unfold gcd_; omega
      simp (disch := first | omega | assumption) only [nq_neg, nq_fix, nq_sub1, nq_addN, nq_add, nq_mul, nq_sub, nq_ltN, nq_Nlt, nq_leN, nq_Nle, nq_lt, nq_le, nq_eq, nq_div, nq_pow, nq_tn, rd_W, wr_W, nS_eq, nS_ne, Option.bind_some, Option.bind_none, ↓reduceIte, Bool.false_eq_true, Nat.reduceEqDiff, Nat.reduceLT, Nat.reduceLeDiff, Nat.reduceAdd, Nat.reduceMul, Nat.reduceSub, Nat.reducePow, Nat.add_sub_cancel, Nat.zero_le, Nat.not_lt_zero, Nat.le_refl, Nat.lt_irrefl, l_0, l_1, l_2, l_3, l_4, l_5, l_6, l_7, l_8, l_9, l_10, l_13, l_14, l_16, l_20, l_24, l_26, l_30, l_31, l_32, l_48, l_57, l_59, l_63, l_96, l_97, l_100, l_122, l_200, l_255, l_256, l_270, l_400, l_429, l_526, l_780, l_800, l_926, l_1726, l_12082, show ¬ (g 7 ≤ k) by omega, m_codeAt g k (by omega) h6]
      rw [show cW (gcd_ g) c (k + 1) = if gcd_ g k = c then cW (gcd_ g) c k + 1 else cW (gcd_ g) c k from rfl] at h8
      by_cases c1 : gcd_ g k = c
      · rw [if_pos c1] at h8 ⊢; exact h8
      · rw [if_neg c1] at h8 ⊢; exact h8
theorem k_us_b (fu : Nat) {g : Nat → Nat} (h7 : g 7 ≤ 800) (hcc : ∀ i, i < g 7 → g (926 + i) < 4096) {ee : ES} (wr : Nat → Nat) (hwl : e_writtenLength ee = nI (g 7)) (hwr : e_written ee = nW wr) (hww : ∀ i, i < g 7 → wr i = gcd_ g i) (c : Nat) (hc : c < 4294967296) : ∀ n k, k ≤ g 7 → g 7 < n + k →
    J_X2_countWritten_b4 fu ee n (nI c) (nI (cW (gcd_ g) c k)) (nI k) = some (nI (cW (gcd_ g) c (g 7))) := by
  intro n
  induction n with
  | zero => intro k h2 h3; omega
  | succ n ih =>
    intro k h2 h3
    unfold J_X2_countWritten_b4
    rw [hwl, hwr]
    by_cases h5 : k = g 7
    · subst h5
      simp (disch := first | omega | assumption) only [nq_neg, nq_fix, nq_sub1, nq_addN, nq_add, nq_mul, nq_sub, nq_ltN, nq_Nlt, nq_leN, nq_Nle, nq_lt, nq_le, nq_eq, nq_div, nq_pow, nq_tn, rd_W, wr_W, nS_eq, nS_ne, Option.bind_some, Option.bind_none, ↓reduceIte, Bool.false_eq_true, Nat.reduceEqDiff, Nat.reduceLT, Nat.reduceLeDiff, Nat.reduceAdd, Nat.reduceMul, Nat.reduceSub, Nat.reducePow, Nat.add_sub_cancel, Nat.zero_le, Nat.not_lt_zero, Nat.le_refl, Nat.lt_irrefl, l_0, l_1, l_2, l_3, l_4, l_5, l_6, l_7, l_8, l_9, l_10, l_13, l_14, l_16, l_20, l_24, l_26, l_30, l_31, l_32, l_48, l_57, l_59, l_63, l_96, l_97, l_100, l_122, l_200, l_255, l_256, l_270, l_400, l_429, l_526, l_780, l_800, l_926, l_1726, l_12082]
    · have h6 := hcc k (by omega)
      have h8 := ih (k + 1) (by omega) (by omega)
      have h9 : gcd_ g k < 4096 := by unfold gcd_; omega
      have e := k_at 800 wr k (by omega) (by omega)
      rw [hww k (by omega)] at e
      simp (disch := first | omega | assumption) only [nq_neg, nq_fix, nq_sub1, nq_addN, nq_add, nq_mul, nq_sub, nq_ltN, nq_Nlt, nq_leN, nq_Nle, nq_lt, nq_le, nq_eq, nq_div, nq_pow, nq_tn, rd_W, wr_W, nS_eq, nS_ne, Option.bind_some, Option.bind_none, ↓reduceIte, Bool.false_eq_true, Nat.reduceEqDiff, Nat.reduceLT, Nat.reduceLeDiff, Nat.reduceAdd, Nat.reduceMul, Nat.reduceSub, Nat.reducePow, Nat.add_sub_cancel, Nat.zero_le, Nat.not_lt_zero, Nat.le_refl, Nat.lt_irrefl, l_0, l_1, l_2, l_3, l_4, l_5, l_6, l_7, l_8, l_9, l_10, l_13, l_14, l_16, l_20, l_24, l_26, l_30, l_31, l_32, l_48, l_57, l_59, l_63, l_96, l_97, l_100, l_122, l_200, l_255, l_256, l_270, l_400, l_429, l_526, l_780, l_800, l_926, l_1726, l_12082, show ¬ (g 7 ≤ k) by omega, e]
      rw [show cW (gcd_ g) c (k + 1) = if gcd_ g k = c then cW (gcd_ g) c k + 1 else cW (gcd_ g) c k from rfl] at h8
      by_cases c1 : gcd_ g k = c
      · rw [if_pos c1] at h8 ⊢; exact h8
      · rw [if_neg c1] at h8 ⊢; exact h8
theorem t_usesOf (fu : Nat) (hf : 20000 ≤ fu) (t : Int32) {ee : ES} {g : Nat → Nat} (h : RE ee g) (hg : GOOD g) (f_tape f_dec : Nat → Int32) (oo : OS) (tt : TS) (rr : RS) (sw : SS) (hh : HS) (x : Int32) :
    (∃ v, J_X7_usesOf fu f_tape f_dec ee oo tt rr sw hh x = some (.inl v) ∧ J_X8_usesOf fu t (nW g) x = some (v, nI 0)) ∨
    (J_X7_usesOf fu f_tape f_dec ee oo tt rr sw hh x = some (.inr "java/lang/IndexOutOfBoundsException") ∧ J_X8_usesOf fu t (nW g) x = some (nI 0, nI 1)) := by
  unfold J_X7_usesOf J_X8_usesOf J_X2_countWritten
  have h4 := hg.1.1.1.1.2.2.2.2.2
  have h7 := hg.1.1.2.2.2.1
  have hcc := hg.1.1.2.2.2.2.1
  rcases code_cases h hg x with ⟨c, hc, rfl, a, b⟩ | ⟨a, b⟩
  · rw [a, b]
    obtain ⟨p, l, le, nw, od, en, wr, wi, he, hr, hen, hww⟩ := h
    have e1 := k_us_b fu (g := g) h7 hcc (ee := ee) wr (by rw [he]; rfl) (by rw [he]; rfl) (fun i hi => (hww i hi).1) c (by omega) fu 0 (by omega) (by omega)
    have e2 := m_us_b fu g t h7 hcc c (by omega) fu 0 (by omega) (by omega)
    refine .inl ⟨nI (cW (gcd_ g) c (g 7)), ?_, ?_⟩
    · simp only [Option.bind_some, tr_l]
      rw [show J_X2_countWritten_b4 fu ee fu (nI c) 0 0 = _ from e1]
      rfl
    · simp (disch := first | omega | assumption) only [nq_neg, nq_fix, nq_sub1, nq_addN, nq_add, nq_mul, nq_sub, nq_ltN, nq_Nlt, nq_leN, nq_Nle, nq_lt, nq_le, nq_eq, nq_div, nq_pow, nq_tn, rd_W, wr_W, nS_eq, nS_ne, Option.bind_some, Option.bind_none, ↓reduceIte, Bool.false_eq_true, Nat.reduceEqDiff, Nat.reduceLT, Nat.reduceLeDiff, Nat.reduceAdd, Nat.reduceMul, Nat.reduceSub, Nat.reducePow, Nat.add_sub_cancel, Nat.zero_le, Nat.not_lt_zero, Nat.le_refl, Nat.lt_irrefl, l_0, l_1, l_2, l_3, l_4, l_5, l_6, l_7, l_8, l_9, l_10, l_13, l_14, l_16, l_20, l_24, l_26, l_30, l_31, l_32, l_48, l_57, l_59, l_63, l_96, l_97, l_100, l_122, l_200, l_255, l_256, l_270, l_400, l_429, l_526, l_780, l_800, l_926, l_1726, l_12082]
      exact e2
  · rw [a, b]
    exact .inr ⟨rfl, rfl⟩
/-! restored, both sides -/
theorem k_covered {ee : ES} {g : Nat → Nat} (h : RE ee g) (hg : GOOD g) : J_X2_covered ee = some (nI (g 13)) := by
  obtain ⟨w, h5b, h50, h6, h7, hcov, hsy⟩ := (WB_iff g).mp hg.1
  obtain ⟨⟨hz2, h0, hw3, h1, hz, h4⟩, wd, ud⟩ := id w.1.1
  obtain ⟨p, l, le, nw, od, en, wr, wi, rfl, hr, hen, hww⟩ := h
  unfold J_X2_covered
  unfold glc at hcov
  by_cases c : g 5 = 0
  · rw [if_pos c] at hcov
    rw [show phr g = 4294967295 from if_pos c, show g 6 = g 13 by omega]
    simp (disch := first | omega | assumption) only [e_d, e_policy, e_limit, e_phrase, e_encoded, e_encodedLength, e_written, e_widths, e_writtenLength, e_bits, e_clears, e_recentCodes, e_recentSymbols, e_recentBits, mkE, eN, nq_neg, nq_fix, nq_sub1, nq_addN, nq_add, nq_mul, nq_sub, nq_ltN, nq_Nlt, nq_leN, nq_Nle, nq_lt, nq_le, nq_eq, nq_div, nq_pow, nq_tn, rd_W, wr_W, nS_eq, nS_ne, Option.bind_some, Option.bind_none, ↓reduceIte, Bool.false_eq_true, Nat.reduceEqDiff, Nat.reduceLT, Nat.reduceLeDiff, Nat.reduceAdd, Nat.reduceMul, Nat.reduceSub, Nat.reducePow, Nat.add_sub_cancel, Nat.zero_le, Nat.not_lt_zero, Nat.le_refl, Nat.lt_irrefl, l_0, l_1, l_2, l_3, l_4, l_5, l_6, l_7, l_8, l_9, l_10, l_13, l_14, l_16, l_20, l_24, l_26, l_30, l_31, l_32, l_48, l_57, l_59, l_63, l_96, l_97, l_100, l_122, l_200, l_255, l_256, l_270, l_400, l_429, l_526, l_780, l_800, l_926, l_1726, l_12082]
  · rw [if_neg c] at hcov
    have e := k_lengthOf p l le nw od (g 0) (g 1) (g 4) (gP g) (gL g) hr h4 (g 5 - 1) (by omega)
    unfold gph at hcov
    rw [show phr g = g 5 - 1 from if_neg c]
    simp (disch := first | omega | assumption) only [e_d, e_policy, e_limit, e_phrase, e_encoded, e_encodedLength, e_written, e_widths, e_writtenLength, e_bits, e_clears, e_recentCodes, e_recentSymbols, e_recentBits, mkE, eN, nq_neg, nq_fix, nq_sub1, nq_addN, nq_add, nq_mul, nq_sub, nq_ltN, nq_Nlt, nq_leN, nq_Nle, nq_lt, nq_le, nq_eq, nq_div, nq_pow, nq_tn, rd_W, wr_W, nS_eq, nS_ne, Option.bind_some, Option.bind_none, ↓reduceIte, Bool.false_eq_true, Nat.reduceEqDiff, Nat.reduceLT, Nat.reduceLeDiff, Nat.reduceAdd, Nat.reduceMul, Nat.reduceSub, Nat.reducePow, Nat.add_sub_cancel, Nat.zero_le, Nat.not_lt_zero, Nat.le_refl, Nat.lt_irrefl, l_0, l_1, l_2, l_3, l_4, l_5, l_6, l_7, l_8, l_9, l_10, l_13, l_14, l_16, l_20, l_24, l_26, l_30, l_31, l_32, l_48, l_57, l_59, l_63, l_96, l_97, l_100, l_122, l_200, l_255, l_256, l_270, l_400, l_429, l_526, l_780, l_800, l_926, l_1726, l_12082, e, show ¬ (g 5 - 1 = 4294967295) by omega]
    rw [show g 6 - (ph (g 0) (gP g) (gL g) (g 5 - 1)).length = g 13 by omega]
theorem k_dec {ee : ES} {g : Nat → Nat} (fu : Nat) (hf : 20000 ≤ fu) (h : RE ee g) (hg : GOOD g) {oo : OS} (ho : OF oo) (P0 L0 : Nat → Nat) :
    ∃ o1 o' n P L pv, J_X0_begin fu oo (e_d ee) = some o1 ∧ J_X0_takeAll fu o1 800 (e_written ee) (e_writtenLength ee) = some (nI 1, o') ∧ RO o' (g 0) (g 1) (n, P, L, pv, syl g (g 13)) := by
  have hs := SET_of hg.1
  unfold SET at hs
  obtain ⟨p, l, le, nw, od, en, wr, wi, rfl, hr, hen, hww⟩ := h
  obtain ⟨o1, a1, b1⟩ := k_obegin fu (by omega) ho p l le nw od (g 0) (g 1) (g 4) (by omega) P0 L0
  obtain ⟨o', n, P, L, pv, a2, b2⟩ := k_takeAll fu (by omega) hg wr (fun i hi => (hww i hi).1) b1
  exact ⟨o1, o', n, P, L, pv, a1, a2, b2⟩
theorem t_restoredCount (fu : Nat) (hf : 20000 ≤ fu) (t : Int32) {ee : ES} {g : Nat → Nat} (h : RE ee g) (hg : GOOD g) {oo : OS} (ho : OF oo) (P0 L0 r0 : Nat → Nat) (x y q : Int32) :
    ∃ v oo' P L n pv r k, J_X7_restoredCount fu ee oo = some (v, oo') ∧ J_X8_restoredCount fu t (nW g) (nW P0) (nW L0) x y (nW r0) q = some (v, nI 0, nW P, nW L, nI n, nI pv, nW r, nI k) ∧ OF oo' := by
  obtain ⟨o1, o', n, P, L, pv, a1, a2, b2⟩ := k_dec fu hf h hg ho P0 L0
  obtain ⟨P', L', n', pv', r', c1, c2⟩ := m_decodesWritten fu (by omega) hg P0 L0 r0 x y q
  have hoc : o_count o' = nI (g 13) := by
    obtain ⟨p, l, le, nw, od, sy, rfl, _⟩ := b2
    show nI (syl g (g 13)).length = _
    rw [syl_len]
  refine ⟨nI (g 13), o', P', L', n', pv', r', g 13, ?_, ?_, RO.OF b2⟩
  · unfold J_X7_restoredCount
    rw [a1]
    simp only [Option.bind_some]
    rw [a2]
    simp only [Option.bind_some, hoc]
  · unfold J_X8_restoredCount
    rw [c1]
    rfl
theorem syl_at (g : Nat → Nat) (m i : Nat) (h : i < m) : (syl g m).getD i 0 = g (526 + i) := by
  unfold syl
  rw [List.getD_eq_getElem?_getD, List.getElem?_map, List.getElem?_range h]
  rfl
theorem m_ae_b (fu : Nat) (g r : Nat → Nat) (h13 : g 13 ≤ 400) (hr : MO r (syl g (g 13))) : ∀ n k, k ≤ g 13 → g 13 < n + k → J_X8_areEncoded_b4 fu (nW g) (nW r) (nI (g 13)) n (nI 1) (nI k) = some (nI 1) := by
  intro n
  induction n with
  | zero => intro k h2 h3; omega
  | succ n ih =>
    intro k h2 h3
    unfold J_X8_areEncoded_b4
    by_cases h5 : k = g 13
    · subst h5
      simp (disch := first | omega | assumption) only [nq_neg, nq_fix, nq_sub1, nq_addN, nq_add, nq_mul, nq_sub, nq_ltN, nq_Nlt, nq_leN, nq_Nle, nq_lt, nq_le, nq_eq, nq_div, nq_pow, nq_tn, rd_W, wr_W, nS_eq, nS_ne, Option.bind_some, Option.bind_none, ↓reduceIte, Bool.false_eq_true, Nat.reduceEqDiff, Nat.reduceLT, Nat.reduceLeDiff, Nat.reduceAdd, Nat.reduceMul, Nat.reduceSub, Nat.reducePow, Nat.add_sub_cancel, Nat.zero_le, Nat.not_lt_zero, Nat.le_refl, Nat.lt_irrefl, l_0, l_1, l_2, l_3, l_4, l_5, l_6, l_7, l_8, l_9, l_10, l_13, l_14, l_16, l_20, l_24, l_26, l_30, l_31, l_32, l_48, l_57, l_59, l_63, l_96, l_97, l_100, l_122, l_200, l_255, l_256, l_270, l_400, l_429, l_526, l_780, l_800, l_926, l_1726, l_12082]
      exact if_pos (and1 1 (by omega))
    · have e := hr k (by rw [syl_len]; omega)
      rw [syl_at g _ _ (by omega)] at e
      have h8 := ih (k + 1) (by omega) (by omega)
      simp (disch := first | omega | assumption) only [nq_neg, nq_fix, nq_sub1, nq_addN, nq_add, nq_mul, nq_sub, nq_ltN, nq_Nlt, nq_leN, nq_Nle, nq_lt, nq_le, nq_eq, nq_div, nq_pow, nq_tn, rd_W, wr_W, nS_eq, nS_ne, Option.bind_some, Option.bind_none, ↓reduceIte, Bool.false_eq_true, Nat.reduceEqDiff, Nat.reduceLT, Nat.reduceLeDiff, Nat.reduceAdd, Nat.reduceMul, Nat.reduceSub, Nat.reducePow, Nat.add_sub_cancel, Nat.zero_le, Nat.not_lt_zero, Nat.le_refl, Nat.lt_irrefl, l_0, l_1, l_2, l_3, l_4, l_5, l_6, l_7, l_8, l_9, l_10, l_13, l_14, l_16, l_20, l_24, l_26, l_30, l_31, l_32, l_48, l_57, l_59, l_63, l_96, l_97, l_100, l_122, l_200, l_255, l_256, l_270, l_400, l_429, l_526, l_780, l_800, l_926, l_1726, l_12082, show ¬ (g 13 ≤ k) by omega, e]
      exact h8
theorem k_ir_b (fu : Nat) (g : Nat → Nat) (h13 : g 13 ≤ g 6) (h6 : g 6 ≤ 400) {ee : ES} (en : Nat → Nat) (he : e_encoded ee = nW en) (hen : ∀ i, i < g 6 → en i = g (526 + i)) {o : OS} (sy : Nat → Nat) (hos : o_symbols o = nW sy) (hoc : o_count o = nI (g 13)) (hsy : ∀ i, i < g 13 → sy i = g (526 + i)) :
    ∀ n k, k ≤ g 13 → g 13 < n + k → J_X7_isRestored_b59 fu ee n o (nI k) = some (nI 1, o) := by
  intro n
  induction n with
  | zero => intro k h2 h3; omega
  | succ n ih =>
    intro k h2 h3
    unfold J_X7_isRestored_b59
    rw [he, hos, hoc]
    by_cases h5 : k = g 13
    · subst h5
      simp (disch := first | omega | assumption) only [nq_neg, nq_fix, nq_sub1, nq_addN, nq_add, nq_mul, nq_sub, nq_ltN, nq_Nlt, nq_leN, nq_Nle, nq_lt, nq_le, nq_eq, nq_div, nq_pow, nq_tn, rd_W, wr_W, nS_eq, nS_ne, Option.bind_some, Option.bind_none, ↓reduceIte, Bool.false_eq_true, Nat.reduceEqDiff, Nat.reduceLT, Nat.reduceLeDiff, Nat.reduceAdd, Nat.reduceMul, Nat.reduceSub, Nat.reducePow, Nat.add_sub_cancel, Nat.zero_le, Nat.not_lt_zero, Nat.le_refl, Nat.lt_irrefl, l_0, l_1, l_2, l_3, l_4, l_5, l_6, l_7, l_8, l_9, l_10, l_13, l_14, l_16, l_20, l_24, l_26, l_30, l_31, l_32, l_48, l_57, l_59, l_63, l_96, l_97, l_100, l_122, l_200, l_255, l_256, l_270, l_400, l_429, l_526, l_780, l_800, l_926, l_1726, l_12082]
    · have e1 := k_at 400 sy k (by omega) (by omega)
      have e2 := k_at 400 en k (by omega) (by omega)
      rw [hsy k (by omega)] at e1
      rw [hen k (by omega)] at e2
      have h8 := ih (k + 1) (by omega) (by omega)
      simp (disch := first | omega | assumption) only [nq_neg, nq_fix, nq_sub1, nq_addN, nq_add, nq_mul, nq_sub, nq_ltN, nq_Nlt, nq_leN, nq_Nle, nq_lt, nq_le, nq_eq, nq_div, nq_pow, nq_tn, rd_W, wr_W, nS_eq, nS_ne, Option.bind_some, Option.bind_none, ↓reduceIte, Bool.false_eq_true, Nat.reduceEqDiff, Nat.reduceLT, Nat.reduceLeDiff, Nat.reduceAdd, Nat.reduceMul, Nat.reduceSub, Nat.reducePow, Nat.add_sub_cancel, Nat.zero_le, Nat.not_lt_zero, Nat.le_refl, Nat.lt_irrefl, l_0, l_1, l_2, l_3, l_4, l_5, l_6, l_7, l_8, l_9, l_10, l_13, l_14, l_16, l_20, l_24, l_26, l_30, l_31, l_32, l_48, l_57, l_59, l_63, l_96, l_97, l_100, l_122, l_200, l_255, l_256, l_270, l_400, l_429, l_526, l_780, l_800, l_926, l_1726, l_12082, show ¬ (g 13 ≤ k) by omega, e1, e2]
      exact h8
theorem t_isRestored (fu : Nat) (hf : 20000 ≤ fu) (t : Int32) {ee : ES} {g : Nat → Nat} (h : RE ee g) (hg : GOOD g) {oo : OS} (ho : OF oo) (P0 L0 r0 : Nat → Nat) (x y q : Int32) :
    ∃ oo' P L n pv r k, J_X7_isRestored fu ee oo = some (nI 1, oo') ∧ J_X8_isRestored fu t (nW g) (nW P0) (nW L0) x y (nW r0) q = some (nI 1, nI 0, nW P, nW L, nI n, nI pv, nW r, nI k) ∧ OF oo' := by
  obtain ⟨w, h5b, h50, h6, h7, hcov, hsyy⟩ := (WB_iff g).mp hg.1
  obtain ⟨o1, o', n, P, L, pv, a1, a2, b2⟩ := k_dec fu hf h hg ho P0 L0
  obtain ⟨P', L', n', pv', r', c1, c2⟩ := m_decodesWritten fu (by omega) hg P0 L0 r0 x y q
  have hcv := k_covered h hg
  refine ⟨o', P', L', n', pv', r', g 13, ?_, ?_, RO.OF b2⟩
  · obtain ⟨p, l, le, nw, od, en, wr, wi, he, hr, hen, hww⟩ := h
    obtain ⟨p1, l1, le1, nw1, od1, sy, hoe, _, hsy⟩ := b2
    have hoc : o_count o' = nI (g 13) := by
      rw [hoe]
      show nI (syl g (g 13)).length = _
      rw [syl_len]
    have e := k_ir_b fu g (by omega) h6 (ee := ee) en (by rw [he]; rfl) hen (o := o') sy (by rw [hoe]) hoc (fun i hi => by rw [hsy i (by rw [syl_len]; exact hi), syl_at g _ _ hi]) fu 0 (by omega) (by omega)
    unfold J_X7_isRestored
    rw [a1]
    simp only [Option.bind_some]
    rw [a2]
    simp only [Option.bind_some]
    rw [if_neg (show ¬ (nI 1 = 0) by decide), hcv]
    simp only [Option.bind_some]
    rw [if_pos hoc]
    exact e
  · have e := m_ae_b fu g r' (by omega) c2 fu 0 (by omega) (by omega)
    unfold J_X8_isRestored J_X8_areEncoded
    rw [c1]
    simp only [Option.bind_some]
    rw [l_13, rd_W 1726 g 13 (by omega) (by omega)]
    simp only [Option.bind_some]
    rw [if_pos trivial, show J_X8_areEncoded_b4 fu (nW g) (nW r') (nI (g 13)) fu 1 0 = some (nI 1) from e]
    rfl
/-! the looks, both sides: the current phrase, saved bits, extensions -/
theorem t_phraseNow (t : Int32) {ee : ES} {g : Nat → Nat} (h : RE ee g) (hg : GOOD g) :
    (∃ v, J_X7_hasPhrase ee = some v ∧ J_X8_hasPhrase t (nW g) = some (v, nI 0)) ∧
    ((∃ v, J_X7_currentPhrase ee = some (.inl v) ∧ J_X8_currentPhrase t (nW g) = some (v, nI 0)) ∨
     (J_X7_currentPhrase ee = some (.inr "java/util/NoSuchElementException") ∧ J_X8_currentPhrase t (nW g) = some (nI 0, nI 1))) := by
  obtain ⟨w, h5b, h50, h6, h7, hcov, hsy⟩ := (WB_iff g).mp hg.1
  have h4 := w.1.1.1.2.2.2.2.2
  obtain ⟨p, l, le, nw, od, en, wr, wi, rfl, hr, hen, hww⟩ := h
  unfold J_X7_hasPhrase J_X8_hasPhrase J_X7_currentPhrase J_X8_currentPhrase J_X8_hasPhrase_b15 J_X8_toldIf
  by_cases c : g 5 = 0
  · rw [show phr g = 4294967295 from if_pos c]
    refine ⟨⟨nI 0, ?_, ?_⟩, .inr ⟨?_, ?_⟩⟩
    · simp (disch := first | omega | assumption) only [e_d, e_policy, e_limit, e_phrase, e_encoded, e_encodedLength, e_written, e_widths, e_writtenLength, e_bits, e_clears, e_recentCodes, e_recentSymbols, e_recentBits, mkE, eN, nq_neg, nq_fix, nq_sub1, nq_addN, nq_add, nq_mul, nq_sub, nq_ltN, nq_Nlt, nq_leN, nq_Nle, nq_lt, nq_le, nq_eq, nq_div, nq_pow, nq_tn, rd_W, wr_W, nS_eq, nS_ne, Option.bind_some, Option.bind_none, ↓reduceIte, Bool.false_eq_true, Nat.reduceEqDiff, Nat.reduceLT, Nat.reduceLeDiff, Nat.reduceAdd, Nat.reduceMul, Nat.reduceSub, Nat.reducePow, Nat.add_sub_cancel, Nat.zero_le, Nat.not_lt_zero, Nat.le_refl, Nat.lt_irrefl, l_0, l_1, l_2, l_3, l_4, l_5, l_6, l_7, l_8, l_9, l_10, l_13, l_14, l_16, l_20, l_24, l_26, l_30, l_31, l_32, l_48, l_57, l_59, l_63, l_96, l_97, l_100, l_122, l_200, l_255, l_256, l_270, l_400, l_429, l_526, l_780, l_800, l_926, l_1726, l_12082]
    · simp (disch := first | omega | assumption) only [nq_neg, nq_fix, nq_sub1, nq_addN, nq_add, nq_mul, nq_sub, nq_ltN, nq_Nlt, nq_leN, nq_Nle, nq_lt, nq_le, nq_eq, nq_div, nq_pow, nq_tn, rd_W, wr_W, nS_eq, nS_ne, Option.bind_some, Option.bind_none, ↓reduceIte, Bool.false_eq_true, Nat.reduceEqDiff, Nat.reduceLT, Nat.reduceLeDiff, Nat.reduceAdd, Nat.reduceMul, Nat.reduceSub, Nat.reducePow, Nat.add_sub_cancel, Nat.zero_le, Nat.not_lt_zero, Nat.le_refl, Nat.lt_irrefl, l_0, l_1, l_2, l_3, l_4, l_5, l_6, l_7, l_8, l_9, l_10, l_13, l_14, l_16, l_20, l_24, l_26, l_30, l_31, l_32, l_48, l_57, l_59, l_63, l_96, l_97, l_100, l_122, l_200, l_255, l_256, l_270, l_400, l_429, l_526, l_780, l_800, l_926, l_1726, l_12082, c]
      rfl
    · simp (disch := first | omega | assumption) only [e_d, e_policy, e_limit, e_phrase, e_encoded, e_encodedLength, e_written, e_widths, e_writtenLength, e_bits, e_clears, e_recentCodes, e_recentSymbols, e_recentBits, mkE, eN, nq_neg, nq_fix, nq_sub1, nq_addN, nq_add, nq_mul, nq_sub, nq_ltN, nq_Nlt, nq_leN, nq_Nle, nq_lt, nq_le, nq_eq, nq_div, nq_pow, nq_tn, rd_W, wr_W, nS_eq, nS_ne, Option.bind_some, Option.bind_none, ↓reduceIte, Bool.false_eq_true, Nat.reduceEqDiff, Nat.reduceLT, Nat.reduceLeDiff, Nat.reduceAdd, Nat.reduceMul, Nat.reduceSub, Nat.reducePow, Nat.add_sub_cancel, Nat.zero_le, Nat.not_lt_zero, Nat.le_refl, Nat.lt_irrefl, l_0, l_1, l_2, l_3, l_4, l_5, l_6, l_7, l_8, l_9, l_10, l_13, l_14, l_16, l_20, l_24, l_26, l_30, l_31, l_32, l_48, l_57, l_59, l_63, l_96, l_97, l_100, l_122, l_200, l_255, l_256, l_270, l_400, l_429, l_526, l_780, l_800, l_926, l_1726, l_12082]
    · simp (disch := first | omega | assumption) only [nq_neg, nq_fix, nq_sub1, nq_addN, nq_add, nq_mul, nq_sub, nq_ltN, nq_Nlt, nq_leN, nq_Nle, nq_lt, nq_le, nq_eq, nq_div, nq_pow, nq_tn, rd_W, wr_W, nS_eq, nS_ne, Option.bind_some, Option.bind_none, ↓reduceIte, Bool.false_eq_true, Nat.reduceEqDiff, Nat.reduceLT, Nat.reduceLeDiff, Nat.reduceAdd, Nat.reduceMul, Nat.reduceSub, Nat.reducePow, Nat.add_sub_cancel, Nat.zero_le, Nat.not_lt_zero, Nat.le_refl, Nat.lt_irrefl, l_0, l_1, l_2, l_3, l_4, l_5, l_6, l_7, l_8, l_9, l_10, l_13, l_14, l_16, l_20, l_24, l_26, l_30, l_31, l_32, l_48, l_57, l_59, l_63, l_96, l_97, l_100, l_122, l_200, l_255, l_256, l_270, l_400, l_429, l_526, l_780, l_800, l_926, l_1726, l_12082, c, m_throwing]
  · rw [show phr g = g 5 - 1 from if_neg c]
    refine ⟨⟨nI 1, ?_, ?_⟩, .inl ⟨nI (g 5 - 1), ?_, ?_⟩⟩
    · simp (disch := first | omega | assumption) only [e_d, e_policy, e_limit, e_phrase, e_encoded, e_encodedLength, e_written, e_widths, e_writtenLength, e_bits, e_clears, e_recentCodes, e_recentSymbols, e_recentBits, mkE, eN, nq_neg, nq_fix, nq_sub1, nq_addN, nq_add, nq_mul, nq_sub, nq_ltN, nq_Nlt, nq_leN, nq_Nle, nq_lt, nq_le, nq_eq, nq_div, nq_pow, nq_tn, rd_W, wr_W, nS_eq, nS_ne, Option.bind_some, Option.bind_none, ↓reduceIte, Bool.false_eq_true, Nat.reduceEqDiff, Nat.reduceLT, Nat.reduceLeDiff, Nat.reduceAdd, Nat.reduceMul, Nat.reduceSub, Nat.reducePow, Nat.add_sub_cancel, Nat.zero_le, Nat.not_lt_zero, Nat.le_refl, Nat.lt_irrefl, l_0, l_1, l_2, l_3, l_4, l_5, l_6, l_7, l_8, l_9, l_10, l_13, l_14, l_16, l_20, l_24, l_26, l_30, l_31, l_32, l_48, l_57, l_59, l_63, l_96, l_97, l_100, l_122, l_200, l_255, l_256, l_270, l_400, l_429, l_526, l_780, l_800, l_926, l_1726, l_12082, show ¬ (g 5 - 1 = 4294967295) by omega]
    · simp (disch := first | omega | assumption) only [nq_neg, nq_fix, nq_sub1, nq_addN, nq_add, nq_mul, nq_sub, nq_ltN, nq_Nlt, nq_leN, nq_Nle, nq_lt, nq_le, nq_eq, nq_div, nq_pow, nq_tn, rd_W, wr_W, nS_eq, nS_ne, Option.bind_some, Option.bind_none, ↓reduceIte, Bool.false_eq_true, Nat.reduceEqDiff, Nat.reduceLT, Nat.reduceLeDiff, Nat.reduceAdd, Nat.reduceMul, Nat.reduceSub, Nat.reducePow, Nat.add_sub_cancel, Nat.zero_le, Nat.not_lt_zero, Nat.le_refl, Nat.lt_irrefl, l_0, l_1, l_2, l_3, l_4, l_5, l_6, l_7, l_8, l_9, l_10, l_13, l_14, l_16, l_20, l_24, l_26, l_30, l_31, l_32, l_48, l_57, l_59, l_63, l_96, l_97, l_100, l_122, l_200, l_255, l_256, l_270, l_400, l_429, l_526, l_780, l_800, l_926, l_1726, l_12082, show ¬ (g 5 ≤ 0) by omega]
      rfl
    · simp (disch := first | omega | assumption) only [e_d, e_policy, e_limit, e_phrase, e_encoded, e_encodedLength, e_written, e_widths, e_writtenLength, e_bits, e_clears, e_recentCodes, e_recentSymbols, e_recentBits, mkE, eN, nq_neg, nq_fix, nq_sub1, nq_addN, nq_add, nq_mul, nq_sub, nq_ltN, nq_Nlt, nq_leN, nq_Nle, nq_lt, nq_le, nq_eq, nq_div, nq_pow, nq_tn, rd_W, wr_W, nS_eq, nS_ne, Option.bind_some, Option.bind_none, ↓reduceIte, Bool.false_eq_true, Nat.reduceEqDiff, Nat.reduceLT, Nat.reduceLeDiff, Nat.reduceAdd, Nat.reduceMul, Nat.reduceSub, Nat.reducePow, Nat.add_sub_cancel, Nat.zero_le, Nat.not_lt_zero, Nat.le_refl, Nat.lt_irrefl, l_0, l_1, l_2, l_3, l_4, l_5, l_6, l_7, l_8, l_9, l_10, l_13, l_14, l_16, l_20, l_24, l_26, l_30, l_31, l_32, l_48, l_57, l_59, l_63, l_96, l_97, l_100, l_122, l_200, l_255, l_256, l_270, l_400, l_429, l_526, l_780, l_800, l_926, l_1726, l_12082, show ¬ (g 5 - 1 = 4294967295) by omega]
    · simp (disch := first | omega | assumption) only [nq_neg, nq_fix, nq_sub1, nq_addN, nq_add, nq_mul, nq_sub, nq_ltN, nq_Nlt, nq_leN, nq_Nle, nq_lt, nq_le, nq_eq, nq_div, nq_pow, nq_tn, rd_W, wr_W, nS_eq, nS_ne, Option.bind_some, Option.bind_none, ↓reduceIte, Bool.false_eq_true, Nat.reduceEqDiff, Nat.reduceLT, Nat.reduceLeDiff, Nat.reduceAdd, Nat.reduceMul, Nat.reduceSub, Nat.reducePow, Nat.add_sub_cancel, Nat.zero_le, Nat.not_lt_zero, Nat.le_refl, Nat.lt_irrefl, l_0, l_1, l_2, l_3, l_4, l_5, l_6, l_7, l_8, l_9, l_10, l_13, l_14, l_16, l_20, l_24, l_26, l_30, l_31, l_32, l_48, l_57, l_59, l_63, l_96, l_97, l_100, l_122, l_200, l_255, l_256, l_270, l_400, l_429, l_526, l_780, l_800, l_926, l_1726, l_12082, c, m_told]
theorem t_savedBits (fu : Nat) (hf : 20000 ≤ fu) (t : Int32) {ee : ES} {g : Nat → Nat} (h : RE ee g) (hg : GOOD g) :
    ∃ v, J_X7_savedBits fu ee = some v ∧ J_X8_savedBits fu t (nW g) = some (v, nI 0) := by
  have hcv := k_covered h hg
  have hs := SET_of hg.1
  unfold SET at hs
  obtain ⟨p, l, le, nw, od, en, wr, wi, rfl, hr, hen, hww⟩ := h
  have a1 := k_widthSymbols fu (by omega) p l le nw od (g 0) (g 1) (g 4) (by omega)
  refine ⟨nI (g 13) * nI (bw (g 0)) - nI (sm (gwd_ g) 0 (g 7)), ?_, ?_⟩
  · unfold J_X7_savedBits
    rw [hcv]
    simp only [Option.bind_some, e_d, e_policy, e_limit, e_phrase, e_encoded, e_encodedLength, e_written, e_widths, e_writtenLength, e_bits, e_clears, e_recentCodes, e_recentSymbols, e_recentBits, mkE, eN, a1]
  · unfold J_X8_savedBits
    rw [l_13, rd_W 1726 g 13 (by omega) (by omega), m_plain fu (by omega) g (by omega), m_allBits fu (by omega) g hg.1.1]
    rfl
theorem sym_cases {ee : ES} {g : Nat → Nat} (h : RE ee g) (hg : GOOD g) (f_tape f_dec : Nat → Int32) (oo : OS) (tt : TS) (rr : RS) (sw : SS) (hh : HS) (x : Int32) :
    (∃ s, s < g 0 ∧ x = nI s ∧ J_X7_requireSymbol f_tape f_dec ee oo tt rr sw hh x = some (.inl ()) ∧ J_X8_isSymbol (nW g) x = some (nI 1)) ∨
    (J_X7_requireSymbol f_tape f_dec ee oo tt rr sw hh x = some (.inr "java/lang/IllegalArgumentException") ∧ J_X8_isSymbol (nW g) x = some (nI 0)) := by
  have hs := SET_of hg.1
  unfold SET at hs
  have hda : d_alphabet (e_d ee) = nI (g 0) := by obtain ⟨p, l, le, nw, od, en, wr, wi, rfl, _⟩ := h; rfl
  unfold J_X7_requireSymbol J_X7_isSymbol
  rw [hda]
  rcases cls32 x (g 0) (by omega) with hx | ⟨s, hs2, rfl⟩ | ⟨s, h1, h2, rfl⟩
  · refine .inr ⟨?_, m_isSymbolN g x hx⟩
    rw [if_pos hx]
    rfl
  · refine .inl ⟨s, hs2, rfl, ?_, by rw [m_isSymbol g (by omega) (by omega) s (by omega), if_pos hs2]⟩
    simp (disch := first | omega | assumption) only [nq_neg, nq_fix, nq_sub1, nq_addN, nq_add, nq_mul, nq_sub, nq_ltN, nq_Nlt, nq_leN, nq_Nle, nq_lt, nq_le, nq_eq, nq_div, nq_pow, nq_tn, rd_W, wr_W, nS_eq, nS_ne, Option.bind_some, Option.bind_none, ↓reduceIte, Bool.false_eq_true, Nat.reduceEqDiff, Nat.reduceLT, Nat.reduceLeDiff, Nat.reduceAdd, Nat.reduceMul, Nat.reduceSub, Nat.reducePow, Nat.add_sub_cancel, Nat.zero_le, Nat.not_lt_zero, Nat.le_refl, Nat.lt_irrefl, l_0, l_1, l_2, l_3, l_4, l_5, l_6, l_7, l_8, l_9, l_10, l_13, l_14, l_16, l_20, l_24, l_26, l_30, l_31, l_32, l_48, l_57, l_59, l_63, l_96, l_97, l_100, l_122, l_200, l_255, l_256, l_270, l_400, l_429, l_526, l_780, l_800, l_926, l_1726, l_12082, show ¬ (g 0 ≤ s) by omega]
  · refine .inr ⟨?_, by rw [m_isSymbol g (by omega) (by omega) s h2, if_neg (by omega)]⟩
    simp (disch := first | omega | assumption) only [nq_neg, nq_fix, nq_sub1, nq_addN, nq_add, nq_mul, nq_sub, nq_ltN, nq_Nlt, nq_leN, nq_Nle, nq_lt, nq_le, nq_eq, nq_div, nq_pow, nq_tn, rd_W, wr_W, nS_eq, nS_ne, Option.bind_some, Option.bind_none, ↓reduceIte, Bool.false_eq_true, Nat.reduceEqDiff, Nat.reduceLT, Nat.reduceLeDiff, Nat.reduceAdd, Nat.reduceMul, Nat.reduceSub, Nat.reducePow, Nat.add_sub_cancel, Nat.zero_le, Nat.not_lt_zero, Nat.le_refl, Nat.lt_irrefl, l_0, l_1, l_2, l_3, l_4, l_5, l_6, l_7, l_8, l_9, l_10, l_13, l_14, l_16, l_20, l_24, l_26, l_30, l_31, l_32, l_48, l_57, l_59, l_63, l_96, l_97, l_100, l_122, l_200, l_255, l_256, l_270, l_400, l_429, l_526, l_780, l_800, l_926, l_1726, l_12082, h1]
theorem t_extensionOf (fu : Nat) (hf : 20000 ≤ fu) (t : Int32) {ee : ES} {g : Nat → Nat} (h : RE ee g) (hg : GOOD g) (f_tape f_dec : Nat → Int32) (oo : OS) (tt : TS) (rr : RS) (sw : SS) (hh : HS) (x y : Int32) :
    (∃ v, J_X7_extensionOf fu f_tape f_dec ee oo tt rr sw hh x y = some (.inl v) ∧ J_X8_extensionOf fu t (nW g) x y = some (v, nI 0)) ∨
    (J_X7_extensionOf fu f_tape f_dec ee oo tt rr sw hh x y = some (.inr "java/lang/IndexOutOfBoundsException") ∧ J_X8_extensionOf fu t (nW g) x y = some (nI 0, nI 1)) ∨
    (J_X7_extensionOf fu f_tape f_dec ee oo tt rr sw hh x y = some (.inr "java/lang/IllegalArgumentException") ∧ J_X8_extensionOf fu t (nW g) x y = some (nI 0, nI 2)) ∨
    (J_X7_extensionOf fu f_tape f_dec ee oo tt rr sw hh x y = some (.inr "java/util/NoSuchElementException") ∧ J_X8_extensionOf fu t (nW g) x y = some (nI 0, nI 3)) := by
  unfold J_X7_extensionOf J_X8_extensionOf J_X8_clear
  rcases code_cases h hg x with ⟨c, hc, rfl, a, b⟩ | ⟨a, b⟩
  · rcases sym_cases h hg f_tape f_dec oo tt rr sw hh y with ⟨s, hs, rfl, a2, b2⟩ | ⟨a2, b2⟩
    · rw [a, b]
      obtain ⟨p, l, le, nw, od, en, wr, wi, rfl, hr, hen, hww⟩ := h
      obtain ⟨⟨hz2, h0, hw3, h1, hz, h4⟩, wd, ud⟩ := id hg.1.1.1
      have e1 := k_longerBy fu (by omega) p l le nw od (g 0) (g 1) (g 4) (gP g) (gL g) hr wd ud (by omega) h4 c s hc hs
      have e2 := m_longer fu (by omega) g hg.1.1.1 c s (by omega) (by omega)
      rw [show kidS (g 0) (gP g) (gL g) c s (g 4) = gk g c s from rfl] at e1
      by_cases cz : c = g 0
      · refine .inr (.inr (.inl ⟨?_, ?_⟩))
        · simp (disch := first | omega | assumption) only [tr_l, nq_neg, nq_fix, nq_sub1, nq_addN, nq_add, nq_mul, nq_sub, nq_ltN, nq_Nlt, nq_leN, nq_Nle, nq_lt, nq_le, nq_eq, nq_div, nq_pow, nq_tn, rd_W, wr_W, nS_eq, nS_ne, Option.bind_some, Option.bind_none, ↓reduceIte, Bool.false_eq_true, Nat.reduceEqDiff, Nat.reduceLT, Nat.reduceLeDiff, Nat.reduceAdd, Nat.reduceMul, Nat.reduceSub, Nat.reducePow, Nat.add_sub_cancel, Nat.zero_le, Nat.not_lt_zero, Nat.le_refl, Nat.lt_irrefl, l_0, l_1, l_2, l_3, l_4, l_5, l_6, l_7, l_8, l_9, l_10, l_13, l_14, l_16, l_20, l_24, l_26, l_30, l_31, l_32, l_48, l_57, l_59, l_63, l_96, l_97, l_100, l_122, l_200, l_255, l_256, l_270, l_400, l_429, l_526, l_780, l_800, l_926, l_1726, l_12082, a2]
          simp (disch := first | omega | assumption) only [e_d, e_policy, e_limit, e_phrase, e_encoded, e_encodedLength, e_written, e_widths, e_writtenLength, e_bits, e_clears, e_recentCodes, e_recentSymbols, e_recentBits, mkE, eN, d_prefix, d_lastSymbol, d_lengths, d_newest, d_older, d_alphabet, d_widest, d_count, mkD, dN, nq_neg, nq_fix, nq_sub1, nq_addN, nq_add, nq_mul, nq_sub, nq_ltN, nq_Nlt, nq_leN, nq_Nle, nq_lt, nq_le, nq_eq, nq_div, nq_pow, nq_tn, rd_W, wr_W, nS_eq, nS_ne, Option.bind_some, Option.bind_none, ↓reduceIte, Bool.false_eq_true, Nat.reduceEqDiff, Nat.reduceLT, Nat.reduceLeDiff, Nat.reduceAdd, Nat.reduceMul, Nat.reduceSub, Nat.reducePow, Nat.add_sub_cancel, Nat.zero_le, Nat.not_lt_zero, Nat.le_refl, Nat.lt_irrefl, l_0, l_1, l_2, l_3, l_4, l_5, l_6, l_7, l_8, l_9, l_10, l_13, l_14, l_16, l_20, l_24, l_26, l_30, l_31, l_32, l_48, l_57, l_59, l_63, l_96, l_97, l_100, l_122, l_200, l_255, l_256, l_270, l_400, l_429, l_526, l_780, l_800, l_926, l_1726, l_12082, cz]
        · simp (disch := first | omega | assumption) only [nq_neg, nq_fix, nq_sub1, nq_addN, nq_add, nq_mul, nq_sub, nq_ltN, nq_Nlt, nq_leN, nq_Nle, nq_lt, nq_le, nq_eq, nq_div, nq_pow, nq_tn, rd_W, wr_W, nS_eq, nS_ne, Option.bind_some, Option.bind_none, ↓reduceIte, Bool.false_eq_true, Nat.reduceEqDiff, Nat.reduceLT, Nat.reduceLeDiff, Nat.reduceAdd, Nat.reduceMul, Nat.reduceSub, Nat.reducePow, Nat.add_sub_cancel, Nat.zero_le, Nat.not_lt_zero, Nat.le_refl, Nat.lt_irrefl, l_0, l_1, l_2, l_3, l_4, l_5, l_6, l_7, l_8, l_9, l_10, l_13, l_14, l_16, l_20, l_24, l_26, l_30, l_31, l_32, l_48, l_57, l_59, l_63, l_96, l_97, l_100, l_122, l_200, l_255, l_256, l_270, l_400, l_429, l_526, l_780, l_800, l_926, l_1726, l_12082, b2, cz, m_throwing]
      · rcases gk_cases (g := g) c s with k | ⟨k1, k2⟩
        · rw [k] at e1 e2
          refine .inr (.inr (.inr ⟨?_, ?_⟩))
          · simp (disch := first | omega | assumption) only [tr_l, nq_neg, nq_fix, nq_sub1, nq_addN, nq_add, nq_mul, nq_sub, nq_ltN, nq_Nlt, nq_leN, nq_Nle, nq_lt, nq_le, nq_eq, nq_div, nq_pow, nq_tn, rd_W, wr_W, nS_eq, nS_ne, Option.bind_some, Option.bind_none, ↓reduceIte, Bool.false_eq_true, Nat.reduceEqDiff, Nat.reduceLT, Nat.reduceLeDiff, Nat.reduceAdd, Nat.reduceMul, Nat.reduceSub, Nat.reducePow, Nat.add_sub_cancel, Nat.zero_le, Nat.not_lt_zero, Nat.le_refl, Nat.lt_irrefl, l_0, l_1, l_2, l_3, l_4, l_5, l_6, l_7, l_8, l_9, l_10, l_13, l_14, l_16, l_20, l_24, l_26, l_30, l_31, l_32, l_48, l_57, l_59, l_63, l_96, l_97, l_100, l_122, l_200, l_255, l_256, l_270, l_400, l_429, l_526, l_780, l_800, l_926, l_1726, l_12082, a2]
            simp (disch := first | omega | assumption) only [e_d, e_policy, e_limit, e_phrase, e_encoded, e_encodedLength, e_written, e_widths, e_writtenLength, e_bits, e_clears, e_recentCodes, e_recentSymbols, e_recentBits, mkE, eN, nq_neg, nq_fix, nq_sub1, nq_addN, nq_add, nq_mul, nq_sub, nq_ltN, nq_Nlt, nq_leN, nq_Nle, nq_lt, nq_le, nq_eq, nq_div, nq_pow, nq_tn, rd_W, wr_W, nS_eq, nS_ne, Option.bind_some, Option.bind_none, ↓reduceIte, Bool.false_eq_true, Nat.reduceEqDiff, Nat.reduceLT, Nat.reduceLeDiff, Nat.reduceAdd, Nat.reduceMul, Nat.reduceSub, Nat.reducePow, Nat.add_sub_cancel, Nat.zero_le, Nat.not_lt_zero, Nat.le_refl, Nat.lt_irrefl, l_0, l_1, l_2, l_3, l_4, l_5, l_6, l_7, l_8, l_9, l_10, l_13, l_14, l_16, l_20, l_24, l_26, l_30, l_31, l_32, l_48, l_57, l_59, l_63, l_96, l_97, l_100, l_122, l_200, l_255, l_256, l_270, l_400, l_429, l_526, l_780, l_800, l_926, l_1726, l_12082, e1]
            simp (disch := first | omega | assumption) only [d_prefix, d_lastSymbol, d_lengths, d_newest, d_older, d_alphabet, d_widest, d_count, mkD, dN, nq_neg, nq_fix, nq_sub1, nq_addN, nq_add, nq_mul, nq_sub, nq_ltN, nq_Nlt, nq_leN, nq_Nle, nq_lt, nq_le, nq_eq, nq_div, nq_pow, nq_tn, rd_W, wr_W, nS_eq, nS_ne, Option.bind_some, Option.bind_none, ↓reduceIte, Bool.false_eq_true, Nat.reduceEqDiff, Nat.reduceLT, Nat.reduceLeDiff, Nat.reduceAdd, Nat.reduceMul, Nat.reduceSub, Nat.reducePow, Nat.add_sub_cancel, Nat.zero_le, Nat.not_lt_zero, Nat.le_refl, Nat.lt_irrefl, l_0, l_1, l_2, l_3, l_4, l_5, l_6, l_7, l_8, l_9, l_10, l_13, l_14, l_16, l_20, l_24, l_26, l_30, l_31, l_32, l_48, l_57, l_59, l_63, l_96, l_97, l_100, l_122, l_200, l_255, l_256, l_270, l_400, l_429, l_526, l_780, l_800, l_926, l_1726, l_12082, cz]
          · simp (disch := first | omega | assumption) only [nq_neg, nq_fix, nq_sub1, nq_addN, nq_add, nq_mul, nq_sub, nq_ltN, nq_Nlt, nq_leN, nq_Nle, nq_lt, nq_le, nq_eq, nq_div, nq_pow, nq_tn, rd_W, wr_W, nS_eq, nS_ne, Option.bind_some, Option.bind_none, ↓reduceIte, Bool.false_eq_true, Nat.reduceEqDiff, Nat.reduceLT, Nat.reduceLeDiff, Nat.reduceAdd, Nat.reduceMul, Nat.reduceSub, Nat.reducePow, Nat.add_sub_cancel, Nat.zero_le, Nat.not_lt_zero, Nat.le_refl, Nat.lt_irrefl, l_0, l_1, l_2, l_3, l_4, l_5, l_6, l_7, l_8, l_9, l_10, l_13, l_14, l_16, l_20, l_24, l_26, l_30, l_31, l_32, l_48, l_57, l_59, l_63, l_96, l_97, l_100, l_122, l_200, l_255, l_256, l_270, l_400, l_429, l_526, l_780, l_800, l_926, l_1726, l_12082, b2, cz, e2, m_throwing]
        · refine .inl ⟨nI (gk g c s), ?_, ?_⟩
          · simp (disch := first | omega | assumption) only [tr_l, nq_neg, nq_fix, nq_sub1, nq_addN, nq_add, nq_mul, nq_sub, nq_ltN, nq_Nlt, nq_leN, nq_Nle, nq_lt, nq_le, nq_eq, nq_div, nq_pow, nq_tn, rd_W, wr_W, nS_eq, nS_ne, Option.bind_some, Option.bind_none, ↓reduceIte, Bool.false_eq_true, Nat.reduceEqDiff, Nat.reduceLT, Nat.reduceLeDiff, Nat.reduceAdd, Nat.reduceMul, Nat.reduceSub, Nat.reducePow, Nat.add_sub_cancel, Nat.zero_le, Nat.not_lt_zero, Nat.le_refl, Nat.lt_irrefl, l_0, l_1, l_2, l_3, l_4, l_5, l_6, l_7, l_8, l_9, l_10, l_13, l_14, l_16, l_20, l_24, l_26, l_30, l_31, l_32, l_48, l_57, l_59, l_63, l_96, l_97, l_100, l_122, l_200, l_255, l_256, l_270, l_400, l_429, l_526, l_780, l_800, l_926, l_1726, l_12082, a2]
            simp (disch := first | omega | assumption) only [e_d, e_policy, e_limit, e_phrase, e_encoded, e_encodedLength, e_written, e_widths, e_writtenLength, e_bits, e_clears, e_recentCodes, e_recentSymbols, e_recentBits, mkE, eN, nq_neg, nq_fix, nq_sub1, nq_addN, nq_add, nq_mul, nq_sub, nq_ltN, nq_Nlt, nq_leN, nq_Nle, nq_lt, nq_le, nq_eq, nq_div, nq_pow, nq_tn, rd_W, wr_W, nS_eq, nS_ne, Option.bind_some, Option.bind_none, ↓reduceIte, Bool.false_eq_true, Nat.reduceEqDiff, Nat.reduceLT, Nat.reduceLeDiff, Nat.reduceAdd, Nat.reduceMul, Nat.reduceSub, Nat.reducePow, Nat.add_sub_cancel, Nat.zero_le, Nat.not_lt_zero, Nat.le_refl, Nat.lt_irrefl, l_0, l_1, l_2, l_3, l_4, l_5, l_6, l_7, l_8, l_9, l_10, l_13, l_14, l_16, l_20, l_24, l_26, l_30, l_31, l_32, l_48, l_57, l_59, l_63, l_96, l_97, l_100, l_122, l_200, l_255, l_256, l_270, l_400, l_429, l_526, l_780, l_800, l_926, l_1726, l_12082, e1]
            simp (disch := first | omega | assumption) only [d_prefix, d_lastSymbol, d_lengths, d_newest, d_older, d_alphabet, d_widest, d_count, mkD, dN, nq_neg, nq_fix, nq_sub1, nq_addN, nq_add, nq_mul, nq_sub, nq_ltN, nq_Nlt, nq_leN, nq_Nle, nq_lt, nq_le, nq_eq, nq_div, nq_pow, nq_tn, rd_W, wr_W, nS_eq, nS_ne, Option.bind_some, Option.bind_none, ↓reduceIte, Bool.false_eq_true, Nat.reduceEqDiff, Nat.reduceLT, Nat.reduceLeDiff, Nat.reduceAdd, Nat.reduceMul, Nat.reduceSub, Nat.reducePow, Nat.add_sub_cancel, Nat.zero_le, Nat.not_lt_zero, Nat.le_refl, Nat.lt_irrefl, l_0, l_1, l_2, l_3, l_4, l_5, l_6, l_7, l_8, l_9, l_10, l_13, l_14, l_16, l_20, l_24, l_26, l_30, l_31, l_32, l_48, l_57, l_59, l_63, l_96, l_97, l_100, l_122, l_200, l_255, l_256, l_270, l_400, l_429, l_526, l_780, l_800, l_926, l_1726, l_12082, cz, show ¬ (gk g c s = 4294967295) by omega]
          · simp (disch := first | omega | assumption) only [nq_neg, nq_fix, nq_sub1, nq_addN, nq_add, nq_mul, nq_sub, nq_ltN, nq_Nlt, nq_leN, nq_Nle, nq_lt, nq_le, nq_eq, nq_div, nq_pow, nq_tn, rd_W, wr_W, nS_eq, nS_ne, Option.bind_some, Option.bind_none, ↓reduceIte, Bool.false_eq_true, Nat.reduceEqDiff, Nat.reduceLT, Nat.reduceLeDiff, Nat.reduceAdd, Nat.reduceMul, Nat.reduceSub, Nat.reducePow, Nat.add_sub_cancel, Nat.zero_le, Nat.not_lt_zero, Nat.le_refl, Nat.lt_irrefl, l_0, l_1, l_2, l_3, l_4, l_5, l_6, l_7, l_8, l_9, l_10, l_13, l_14, l_16, l_20, l_24, l_26, l_30, l_31, l_32, l_48, l_57, l_59, l_63, l_96, l_97, l_100, l_122, l_200, l_255, l_256, l_270, l_400, l_429, l_526, l_780, l_800, l_926, l_1726, l_12082, b2, cz, e2, m_told]
    · rw [a, b]
      refine .inr (.inr (.inl ⟨?_, ?_⟩))
      · simp only [Option.bind_some, tr_l, a2, tr_r]
      · simp (disch := first | omega | assumption) only [nq_neg, nq_fix, nq_sub1, nq_addN, nq_add, nq_mul, nq_sub, nq_ltN, nq_Nlt, nq_leN, nq_Nle, nq_lt, nq_le, nq_eq, nq_div, nq_pow, nq_tn, rd_W, wr_W, nS_eq, nS_ne, Option.bind_some, Option.bind_none, ↓reduceIte, Bool.false_eq_true, Nat.reduceEqDiff, Nat.reduceLT, Nat.reduceLeDiff, Nat.reduceAdd, Nat.reduceMul, Nat.reduceSub, Nat.reducePow, Nat.add_sub_cancel, Nat.zero_le, Nat.not_lt_zero, Nat.le_refl, Nat.lt_irrefl, l_0, l_1, l_2, l_3, l_4, l_5, l_6, l_7, l_8, l_9, l_10, l_13, l_14, l_16, l_20, l_24, l_26, l_30, l_31, l_32, l_48, l_57, l_59, l_63, l_96, l_97, l_100, l_122, l_200, l_255, l_256, l_270, l_400, l_429, l_526, l_780, l_800, l_926, l_1726, l_12082, b2, m_throwing]
  · rw [a, b]
    exact .inr (.inl ⟨rfl, rfl⟩)
/-! the looks, both sides: what a symbol would bring; the longest phrase -/
theorem m_wouldEnd (fu : Nat) (hf : 20000 ≤ fu) {g : Nat → Nat} (hg : GOOD g) (s : Nat) (hs : s < g 0) : J_X8_wouldEnd fu (nW g) (nI s) = some (nI (if g 5 ≠ 0 ∧ gk g (g 5 - 1) s = 4294967295 then 1 else 0)) := by
  obtain ⟨w, h5b, h50, h6, h7, hcov, hsy⟩ := (WB_iff g).mp hg.1
  obtain ⟨⟨hz2, h0, hw3, h1, hz, h4⟩, wd, ud⟩ := id w.1.1
  unfold J_X8_wouldEnd
  by_cases c : g 5 = 0
  · rw [if_neg (fun hx => hx.1 c)]
    simp (disch := first | omega | assumption) only [nq_neg, nq_fix, nq_sub1, nq_addN, nq_add, nq_mul, nq_sub, nq_ltN, nq_Nlt, nq_leN, nq_Nle, nq_lt, nq_le, nq_eq, nq_div, nq_pow, nq_tn, rd_W, wr_W, nS_eq, nS_ne, Option.bind_some, Option.bind_none, ↓reduceIte, Bool.false_eq_true, Nat.reduceEqDiff, Nat.reduceLT, Nat.reduceLeDiff, Nat.reduceAdd, Nat.reduceMul, Nat.reduceSub, Nat.reducePow, Nat.add_sub_cancel, Nat.zero_le, Nat.not_lt_zero, Nat.le_refl, Nat.lt_irrefl, l_0, l_1, l_2, l_3, l_4, l_5, l_6, l_7, l_8, l_9, l_10, l_13, l_14, l_16, l_20, l_24, l_26, l_30, l_31, l_32, l_48, l_57, l_59, l_63, l_96, l_97, l_100, l_122, l_200, l_255, l_256, l_270, l_400, l_429, l_526, l_780, l_800, l_926, l_1726, l_12082, c]
  · have e := m_longer fu (by omega) g w.1.1 (g 5 - 1) s (by omega) (by omega)
    rcases gk_cases (g := g) (g 5 - 1) s with k | ⟨k1, k2⟩
    · rw [if_pos ⟨c, k⟩]
      rw [k] at e
      simp (disch := first | omega | assumption) only [nq_neg, nq_fix, nq_sub1, nq_addN, nq_add, nq_mul, nq_sub, nq_ltN, nq_Nlt, nq_leN, nq_Nle, nq_lt, nq_le, nq_eq, nq_div, nq_pow, nq_tn, rd_W, wr_W, nS_eq, nS_ne, Option.bind_some, Option.bind_none, ↓reduceIte, Bool.false_eq_true, Nat.reduceEqDiff, Nat.reduceLT, Nat.reduceLeDiff, Nat.reduceAdd, Nat.reduceMul, Nat.reduceSub, Nat.reducePow, Nat.add_sub_cancel, Nat.zero_le, Nat.not_lt_zero, Nat.le_refl, Nat.lt_irrefl, l_0, l_1, l_2, l_3, l_4, l_5, l_6, l_7, l_8, l_9, l_10, l_13, l_14, l_16, l_20, l_24, l_26, l_30, l_31, l_32, l_48, l_57, l_59, l_63, l_96, l_97, l_100, l_122, l_200, l_255, l_256, l_270, l_400, l_429, l_526, l_780, l_800, l_926, l_1726, l_12082, e]
    · rw [if_neg (fun hx => by have := hx.2; omega)]
      simp (disch := first | omega | assumption) only [nq_neg, nq_fix, nq_sub1, nq_addN, nq_add, nq_mul, nq_sub, nq_ltN, nq_Nlt, nq_leN, nq_Nle, nq_lt, nq_le, nq_eq, nq_div, nq_pow, nq_tn, rd_W, wr_W, nS_eq, nS_ne, Option.bind_some, Option.bind_none, ↓reduceIte, Bool.false_eq_true, Nat.reduceEqDiff, Nat.reduceLT, Nat.reduceLeDiff, Nat.reduceAdd, Nat.reduceMul, Nat.reduceSub, Nat.reducePow, Nat.add_sub_cancel, Nat.zero_le, Nat.not_lt_zero, Nat.le_refl, Nat.lt_irrefl, l_0, l_1, l_2, l_3, l_4, l_5, l_6, l_7, l_8, l_9, l_10, l_13, l_14, l_16, l_20, l_24, l_26, l_30, l_31, l_32, l_48, l_57, l_59, l_63, l_96, l_97, l_100, l_122, l_200, l_255, l_256, l_270, l_400, l_429, l_526, l_780, l_800, l_926, l_1726, l_12082, e]
theorem m_wouldClear (fu : Nat) (hf : 20000 ≤ fu) {g : Nat → Nat} (hg : GOOD g) (h5 : g 5 ≠ 0) : J_X8_wouldClear fu (nW g) = some (nI (if asked (gWr g (g 5 - 1)) = true then 1 else 0)) := by
  obtain ⟨w, h5b, h50, h6, h7, hcov, hsy⟩ := (WB_iff g).mp hg.1
  obtain ⟨hm, hq, h2, h31, h3, h8, hcw⟩ := w
  obtain ⟨⟨hz2, h0, hw3, h1, hz, h4⟩, wd, ud⟩ := id hm.1
  have hb := gbs_le hm
  have hbw := bw_rng (g 4)
  have hc : g 5 - 1 < g 4 := by omega
  have hl := ph_le wd _ hc
  have hl2 : (gph g (g 5 - 1)).length ≤ g 5 - 1 + 1 := hl
  have hq2 := pcn_le (g 0) (gbs g + bw (g 4)) (gss g + (gph g (g 5 - 1)).length) (by omega)
  have e1 : J_X8_bitsSince fu (nW g) = some (nI (gbs g)) := m_bitsSince fu (by omega) g hm
  have e2 : J_X8_symbolsSince fu (nW g) = some (nI (gss g)) := m_symbolsSince fu (by omega) g hm
  have e3 := m_percentOf fu (by omega) g h0 (gbs g + bw (g 4)) (gss g + (gph g (g 5 - 1)).length) (by omega) (by omega)
  unfold J_X8_wouldClear
  rw [asked_gWr hm hc, m_isAllFull g h1 h4]
  by_cases c6 : g 4 = 2 ^ g 1
  · rw [if_pos c6, decide_eq_true c6]
    by_cases c2 : g 2 = 2
    · simp (disch := first | omega | assumption) only [nq_neg, nq_fix, nq_sub1, nq_addN, nq_add, nq_mul, nq_sub, nq_ltN, nq_Nlt, nq_leN, nq_Nle, nq_lt, nq_le, nq_eq, nq_div, nq_pow, nq_tn, rd_W, wr_W, nS_eq, nS_ne, Option.bind_some, Option.bind_none, ↓reduceIte, Bool.false_eq_true, Nat.reduceEqDiff, Nat.reduceLT, Nat.reduceLeDiff, Nat.reduceAdd, Nat.reduceMul, Nat.reduceSub, Nat.reducePow, Nat.add_sub_cancel, Nat.zero_le, Nat.not_lt_zero, Nat.le_refl, Nat.lt_irrefl, l_0, l_1, l_2, l_3, l_4, l_5, l_6, l_7, l_8, l_9, l_10, l_13, l_14, l_16, l_20, l_24, l_26, l_30, l_31, l_32, l_48, l_57, l_59, l_63, l_96, l_97, l_100, l_122, l_200, l_255, l_256, l_270, l_400, l_429, l_526, l_780, l_800, l_926, l_1726, l_12082, c2, e1, e2, m_bitsFor fu (g 4) h4 (by omega), m_lengthOf fu g hm.1 (by omega) (g 5 - 1) hc, e3]
      by_cases c3 : g 3 < pcn (g 0) (gbs g + bw (g 4)) (gss g + (gph g (g 5 - 1)).length)
      · rw [if_neg (Nat.not_le.mpr c3), decide_eq_true c3]
        rfl
      · rw [if_pos (Nat.not_lt.mp c3), decide_eq_false c3]
        rfl
    · by_cases c1 : g 2 = 1
      · simp (disch := first | omega | assumption) only [nq_neg, nq_fix, nq_sub1, nq_addN, nq_add, nq_mul, nq_sub, nq_ltN, nq_Nlt, nq_leN, nq_Nle, nq_lt, nq_le, nq_eq, nq_div, nq_pow, nq_tn, rd_W, wr_W, nS_eq, nS_ne, Option.bind_some, Option.bind_none, ↓reduceIte, Bool.false_eq_true, Nat.reduceEqDiff, Nat.reduceLT, Nat.reduceLeDiff, Nat.reduceAdd, Nat.reduceMul, Nat.reduceSub, Nat.reducePow, Nat.add_sub_cancel, Nat.zero_le, Nat.not_lt_zero, Nat.le_refl, Nat.lt_irrefl, l_0, l_1, l_2, l_3, l_4, l_5, l_6, l_7, l_8, l_9, l_10, l_13, l_14, l_16, l_20, l_24, l_26, l_30, l_31, l_32, l_48, l_57, l_59, l_63, l_96, l_97, l_100, l_122, l_200, l_255, l_256, l_270, l_400, l_429, l_526, l_780, l_800, l_926, l_1726, l_12082, c1]
        rfl
      · simp (disch := first | omega | assumption) only [nq_neg, nq_fix, nq_sub1, nq_addN, nq_add, nq_mul, nq_sub, nq_ltN, nq_Nlt, nq_leN, nq_Nle, nq_lt, nq_le, nq_eq, nq_div, nq_pow, nq_tn, rd_W, wr_W, nS_eq, nS_ne, Option.bind_some, Option.bind_none, ↓reduceIte, Bool.false_eq_true, Nat.reduceEqDiff, Nat.reduceLT, Nat.reduceLeDiff, Nat.reduceAdd, Nat.reduceMul, Nat.reduceSub, Nat.reducePow, Nat.add_sub_cancel, Nat.zero_le, Nat.not_lt_zero, Nat.le_refl, Nat.lt_irrefl, l_0, l_1, l_2, l_3, l_4, l_5, l_6, l_7, l_8, l_9, l_10, l_13, l_14, l_16, l_20, l_24, l_26, l_30, l_31, l_32, l_48, l_57, l_59, l_63, l_96, l_97, l_100, l_122, l_200, l_255, l_256, l_270, l_400, l_429, l_526, l_780, l_800, l_926, l_1726, l_12082, c1, c2]
        rfl
  · rw [if_neg c6, decide_eq_false c6]
    rfl
theorem t_ifEncoded (fu : Nat) (hf : 20000 ≤ fu) (t : Int32) {ee : ES} {g : Nat → Nat} (h : RE ee g) (hg : GOOD g) (f_tape f_dec : Nat → Int32) (oo : OS) (tt : TS) (rr : RS) (sw : SS) (hh : HS) (x : Int32) :
    ((∃ v, J_X7_codesIfEncoded fu f_tape f_dec ee oo tt rr sw hh x = some (.inl v) ∧ J_X8_codesIfEncoded fu t (nW g) x = some (v, nI 0)) ∨
     (J_X7_codesIfEncoded fu f_tape f_dec ee oo tt rr sw hh x = some (.inr "java/lang/IllegalArgumentException") ∧ J_X8_codesIfEncoded fu t (nW g) x = some (nI 0, nI 1))) ∧
    ((∃ v, J_X7_clearsIfEncoded fu f_tape f_dec ee oo tt rr sw hh x = some (.inl v) ∧ J_X8_clearsIfEncoded fu t (nW g) x = some (v, nI 0)) ∨
     (J_X7_clearsIfEncoded fu f_tape f_dec ee oo tt rr sw hh x = some (.inr "java/lang/IllegalArgumentException") ∧ J_X8_clearsIfEncoded fu t (nW g) x = some (nI 0, nI 1))) := by
  obtain ⟨w, h5b, h50, h6, h7, hcov, hsy⟩ := (WB_iff g).mp hg.1
  unfold J_X7_codesIfEncoded J_X8_codesIfEncoded J_X7_clearsIfEncoded J_X8_clearsIfEncoded J_X8_codesBy J_X8_clearsBy
  rcases sym_cases h hg f_tape f_dec oo tt rr sw hh x with ⟨s, hs, rfl, a, b⟩ | ⟨a, b⟩
  · have e1 := k_codesFor fu (by omega) h w.1 w.2.2.1 w.2.2.2.2.1 h5b s hs
    have e2 := m_wouldEnd fu hf hg s hs
    unfold cdN at e1
    rw [a, b]
    by_cases c5 : g 5 = 0
    · rw [if_pos c5] at e1
      rw [if_neg (fun hx => hx.1 c5)] at e2
      refine ⟨.inl ⟨nI 0, ?_, ?_⟩, .inl ⟨nI 0, ?_, ?_⟩⟩
      all_goals simp (disch := first | omega | assumption) only [tr_l, nq_neg, nq_fix, nq_sub1, nq_addN, nq_add, nq_mul, nq_sub, nq_ltN, nq_Nlt, nq_leN, nq_Nle, nq_lt, nq_le, nq_eq, nq_div, nq_pow, nq_tn, rd_W, wr_W, nS_eq, nS_ne, Option.bind_some, Option.bind_none, ↓reduceIte, Bool.false_eq_true, Nat.reduceEqDiff, Nat.reduceLT, Nat.reduceLeDiff, Nat.reduceAdd, Nat.reduceMul, Nat.reduceSub, Nat.reducePow, Nat.add_sub_cancel, Nat.zero_le, Nat.not_lt_zero, Nat.le_refl, Nat.lt_irrefl, l_0, l_1, l_2, l_3, l_4, l_5, l_6, l_7, l_8, l_9, l_10, l_13, l_14, l_16, l_20, l_24, l_26, l_30, l_31, l_32, l_48, l_57, l_59, l_63, l_96, l_97, l_100, l_122, l_200, l_255, l_256, l_270, l_400, l_429, l_526, l_780, l_800, l_926, l_1726, l_12082, e1, e2, m_told]
    · rw [if_neg c5] at e1
      have e3 := m_wouldClear fu hf hg c5
      by_cases ck : gk g (g 5 - 1) s = 4294967295
      · rw [if_pos ck] at e1
        rw [if_pos ⟨c5, ck⟩] at e2
        by_cases ca : asked (gWr g (g 5 - 1)) = true
        · rw [if_pos ca] at e1 e3
          refine ⟨.inl ⟨nI 2, ?_, ?_⟩, .inl ⟨nI 1, ?_, ?_⟩⟩
          all_goals simp (disch := first | omega | assumption) only [tr_l, nq_neg, nq_fix, nq_sub1, nq_addN, nq_add, nq_mul, nq_sub, nq_ltN, nq_Nlt, nq_leN, nq_Nle, nq_lt, nq_le, nq_eq, nq_div, nq_pow, nq_tn, rd_W, wr_W, nS_eq, nS_ne, Option.bind_some, Option.bind_none, ↓reduceIte, Bool.false_eq_true, Nat.reduceEqDiff, Nat.reduceLT, Nat.reduceLeDiff, Nat.reduceAdd, Nat.reduceMul, Nat.reduceSub, Nat.reducePow, Nat.add_sub_cancel, Nat.zero_le, Nat.not_lt_zero, Nat.le_refl, Nat.lt_irrefl, l_0, l_1, l_2, l_3, l_4, l_5, l_6, l_7, l_8, l_9, l_10, l_13, l_14, l_16, l_20, l_24, l_26, l_30, l_31, l_32, l_48, l_57, l_59, l_63, l_96, l_97, l_100, l_122, l_200, l_255, l_256, l_270, l_400, l_429, l_526, l_780, l_800, l_926, l_1726, l_12082, e1, e2, e3, m_told]
        · rw [if_neg ca] at e1 e3
          refine ⟨.inl ⟨nI 1, ?_, ?_⟩, .inl ⟨nI 0, ?_, ?_⟩⟩
          all_goals simp (disch := first | omega | assumption) only [tr_l, nq_neg, nq_fix, nq_sub1, nq_addN, nq_add, nq_mul, nq_sub, nq_ltN, nq_Nlt, nq_leN, nq_Nle, nq_lt, nq_le, nq_eq, nq_div, nq_pow, nq_tn, rd_W, wr_W, nS_eq, nS_ne, Option.bind_some, Option.bind_none, ↓reduceIte, Bool.false_eq_true, Nat.reduceEqDiff, Nat.reduceLT, Nat.reduceLeDiff, Nat.reduceAdd, Nat.reduceMul, Nat.reduceSub, Nat.reducePow, Nat.add_sub_cancel, Nat.zero_le, Nat.not_lt_zero, Nat.le_refl, Nat.lt_irrefl, l_0, l_1, l_2, l_3, l_4, l_5, l_6, l_7, l_8, l_9, l_10, l_13, l_14, l_16, l_20, l_24, l_26, l_30, l_31, l_32, l_48, l_57, l_59, l_63, l_96, l_97, l_100, l_122, l_200, l_255, l_256, l_270, l_400, l_429, l_526, l_780, l_800, l_926, l_1726, l_12082, e1, e2, e3, m_told]
      · rw [if_neg ck] at e1
        rw [if_neg (fun hx => ck hx.2)] at e2
        refine ⟨.inl ⟨nI 0, ?_, ?_⟩, .inl ⟨nI 0, ?_, ?_⟩⟩
        all_goals simp (disch := first | omega | assumption) only [tr_l, nq_neg, nq_fix, nq_sub1, nq_addN, nq_add, nq_mul, nq_sub, nq_ltN, nq_Nlt, nq_leN, nq_Nle, nq_lt, nq_le, nq_eq, nq_div, nq_pow, nq_tn, rd_W, wr_W, nS_eq, nS_ne, Option.bind_some, Option.bind_none, ↓reduceIte, Bool.false_eq_true, Nat.reduceEqDiff, Nat.reduceLT, Nat.reduceLeDiff, Nat.reduceAdd, Nat.reduceMul, Nat.reduceSub, Nat.reducePow, Nat.add_sub_cancel, Nat.zero_le, Nat.not_lt_zero, Nat.le_refl, Nat.lt_irrefl, l_0, l_1, l_2, l_3, l_4, l_5, l_6, l_7, l_8, l_9, l_10, l_13, l_14, l_16, l_20, l_24, l_26, l_30, l_31, l_32, l_48, l_57, l_59, l_63, l_96, l_97, l_100, l_122, l_200, l_255, l_256, l_270, l_400, l_429, l_526, l_780, l_800, l_926, l_1726, l_12082, e1, e2, m_told]
  · rw [a, b]
    exact ⟨.inr ⟨rfl, rfl⟩, .inr ⟨rfl, rfl⟩⟩
