/-! a code list decoded, both sides -/
theorem okI_cases (x : Option DT) (d : DT) : (x = none ∧ okI x = 0 ∧ x.getD d = d) ∨ (∃ d', x = some d' ∧ okI x = 1 ∧ x.getD d = d') := by
  cases x with
  | none => exact .inl ⟨rfl, rfl, rfl⟩
  | some d' => exact .inr ⟨d', rfl, rfl, rfl⟩
theorem k_rc_eq (fu : Nat) (f : Nat → Int32) (m : Nat) (o : OS) (T k s n y : Int32) : J_X0_readCodes_b6 fu 800 f (m + 1) o (mkT T k s n) y =
    if (800 : Int32) ≤ y then (if k = 0 then some ((1 : Int32), o, mkT T k s n) else some ((0 : Int32), o, mkT T k s n)) else
    if k = 0 then (if k = 0 then some ((1 : Int32), o, mkT T k s n) else some ((0 : Int32), o, mkT T k s n)) else
    if k = (2 : Int32) then ((J_X6_number fu (mkT T k s n) 800 f).bind fun z6 => (J_X0_takeCode fu o z6).bind fun z8 => if z8.1 = 0 then some ((0 : Int32), z8.2, mkT T k s n) else (J_X6_step fu (mkT T k s n) 800 f).bind fun z11 => J_X0_readCodes_b6 fu 800 f m z8.2 z11 (y + 1)) else
    some ((0 : Int32), o, mkT T k s n) := rfl
theorem m_acc_bad0 (fu : Nat) (v : Nat → Int32) (x1 x2 x3 x4 : Int32) (x5 : Int64) (x6 x7 : Int32) (T : Int32) :
    J_X8_accepts fu v T x1 x2 x3 x4 x5 x6 x7 (nI 1) (0 : Int32) = some (x3, x2, x3, x4, x5, x6, x7, nI 0) := rfl
theorem dec_b (fu : Nat) (hf : 20000 ≤ fu) {f v : Nat → Int32} {b : Nat → Nat} {T : Nat} (hT : T ≤ 800) (hf1 : ∀ i, i < T → b i < 256 ∧ f i = nI (b i)) (hv : ∀ i, i < T → b i < 256 ∧ v i = sb (b i)) (g : Nat → Nat) (hz : g 0 ≤ 26) (h1 : g 1 ≤ 8) (hzM : g 0 + 1 ≤ 2 ^ g 1) (er th : Int32) (dcd : Nat → Int32) (dcs : Int32) :
    ∀ q e, T - e < q → e ≤ T → ∀ k s n, TK b T e k s n → ∀ (d : DT) (o : OS) (r : Nat → Nat), DW (g 0) (2 ^ g 1) d → RO o (g 0) (g 1) d → MO r d.2.2.2.2 → ∀ word lt nm, TKM b k s n word lt nm → ∀ m1 m2 y, T - e < m1 → T - e + 1 < m2 → y ≤ e →
    ∃ (o' : OS) (t' : TS) (d' : DT) (r' : Nat → Nat) (x2 x3 x4 : Int32) (x5 : Int64) (x6 x7 : Int32), DW (g 0) (2 ^ g 1) d' ∧ RO o' (g 0) (g 1) d' ∧ MO r' d'.2.2.2.2 ∧
    ((J_X0_readCodes_b6 fu 800 f m1 o (mkT (nI T) (nI k) (nI s) (nI n)) (nI y) = some (nI 1, o', t') ∧
      J_X8_decode_b8 fu v (nW g) m2 (nI T) er th (nW d.2.1) (nW d.2.2.1) (nI d.1) (nI d.2.2.2.1) (nW r) (nI d.2.2.2.2.length) dcd dcs (nI n) (nI s) (nI k) word lt nm (nI 1) = J_X8_decode_b53 fu v (nW g) (nI T) er th (nW d'.2.1) (nW d'.2.2.1) (nI d'.1) (nI d'.2.2.2.1) (nW r') (nI d'.2.2.2.2.length) dcd dcs x2 x3 x4 x5 x6 x7 (nI 1)) ∨
     (∃ p, J_X0_readCodes_b6 fu 800 f m1 o (mkT (nI T) (nI k) (nI s) (nI n)) (nI y) = some (nI 0, o', t') ∧ t_start t' = nI p ∧
      J_X8_decode_b8 fu v (nW g) m2 (nI T) er th (nW d.2.1) (nW d.2.2.1) (nI d.1) (nI d.2.2.2.1) (nW r) (nI d.2.2.2.2.length) dcd dcs (nI n) (nI s) (nI k) word lt nm (nI 1) = J_X8_decode_b53 fu v (nW g) (nI T) (nI p) th (nW d'.2.1) (nW d'.2.2.1) (nI d'.1) (nI d'.2.2.2.1) (nW r') (nI d'.2.2.2.2.length) dcd dcs x2 x3 x4 x5 x6 x7 (nI 0))) := by
  intro q
  induction q with
  | zero => intro e h; omega
  | succ q ih =>
    intro e hq he k s n htk d o r hd ho hr word lt nm hm m1 m2 y hm1 hm2 hy
    have hn := TK_n htk
    obtain ⟨m1, rfl⟩ : ∃ m, m1 = m + 1 := ⟨m1 - 1, by omega⟩
    obtain ⟨m2, rfl⟩ : ∃ m, m2 = m + 2 := ⟨m2 - 2, by omega⟩
    rw [k_rc_eq, J_X8_decode_b8, if_neg (show ¬ (nI 1 = 0) by decide)]
    by_cases k0 : k = 0
    · subst k0
      refine ⟨o, mkT (nI T) (nI 0) (nI s) (nI n), d, r, nI n, nI s, nI 0, word, lt, nm, hd, ho, hr, .inl ⟨?_, ?_⟩⟩
      · rw [if_pos n00, if_pos n00]
        by_cases c : (800 : Int32) ≤ nI y
        · rw [if_pos c]; rfl
        · rw [if_neg c]; rfl
      · rw [if_pos n00]
    · have hsT : s < T := by
        rcases Nat.lt_or_ge s T with h | h
        · exact h
        · exact absurd (hn.2.2.2.2.2.1.mpr (by omega)) k0
      have hk0 : ¬ (nI k = (0 : Int32)) := by rw [l_0, nq_eq _ _ (by omega) (by omega)]; exact k0
      rw [if_neg (show ¬ ((800 : Int32) ≤ nI y) by rw [l_800, nq_le _ _ (by omega) (by omega)]; omega), if_neg hk0, if_neg hk0]
      by_cases k2 : k = 2
      · subst k2
        obtain ⟨e1, e2⟩ := k_number6 fu hf hT hf1 htk (nI 2)
        have e3 := hm.2 rfl
        obtain ⟨o1, a1, a2⟩ := k_takeCode fu (by omega) ho h1 (by omega) hzM hd (nN b s (n - s)) (by omega)
        obtain ⟨r1, b1, b2⟩ := m_takes fu (by omega) g hz h1 d hd r hr (nN b s (n - s)) (by omega)
        rw [if_pos (show nI 2 = (2 : Int32) from rfl), if_pos (show nI 2 = (2 : Int32) from rfl), e1, e3, b1]
        simp only [Option.bind_some]
        rw [a1]
        simp only [Option.bind_some]
        rcases okI_cases (dTk (g 0) (2 ^ g 1) d (nN b s (n - s))) d with ⟨c1, c2, c3⟩ | ⟨d1, c1, c2, c3⟩
        · rw [c2, if_pos n00, if_pos n00, m_acc_bad0]
          simp only [Option.bind_some]
          rw [J_X8_decode_b8, if_pos n00]
          rw [c3] at a2 b2
          refine ⟨o1, mkT (nI T) (nI 2) (nI s) (nI n), d, r1, nI n, nI s, nI 2, word, lt, nI (nN b s (n - s)), hd, a2, b2, .inr ⟨s, rfl, rfl, ?_⟩⟩
          rw [c3]
        · rw [c2, if_neg (show ¬ (nI 1 = 0) by decide), if_neg (show ¬ (nI 1 = 0) by decide), show (1 : Int32) = nI 1 from rfl, m_acc_ok fu v _ _ _ _ _ _ _ _ 1 rfl]
          rw [c3] at a2 b2
          rw [c3]
          have hd1 := DW_step (by omega) (pow_le8 _ h1) hzM hd _ c1
          obtain ⟨k', s', n', htk'⟩ := tk_ex b T n hn.2.2.2.1
          obtain ⟨w', l', nm', f1, f2⟩ := m_next fu hf hT hv htk' (nI s) (nI 2) word lt (nI (nN b s (n - s)))
          have g1 := k_step fu hf hT hf1 htk' (nI 2) (nI s)
          have hsn := hn.2.2.2.2.2.2 hsT
          have hes := hn.1
          rw [f1, g1]
          simp only [Option.bind_some, nq_add]
          exact ih n (by omega) hn.2.2.2.1 k' s' n' htk' d1 o1 r1 hd1 a2 b2 w' l' nm' f2 m1 (m2 + 1) (y + 1) (by omega) (by omega) (by omega)
      · have hk2 : ¬ (nI k = (2 : Int32)) := by rw [l_2, nq_eq _ _ (by omega) (by omega)]; exact k2
        rw [if_neg hk2, if_neg hk2, m_acc_bad0]
        simp only [Option.bind_some]
        rw [J_X8_decode_b8, if_pos n00]
        exact ⟨o, mkT (nI T) (nI k) (nI s) (nI n), d, r, nI n, nI s, nI k, word, lt, nm, hd, ho, hr, .inr ⟨s, rfl, rfl, rfl⟩⟩
theorem copy_F (N : Nat) (f h : Nat → Int32) (n : Nat) (hn : n ≤ N) (hN : N < 100000) : J_X7_copyRow N f N h (nI n) = some (fun k => if k < n then f k else h k) := by
  unfold J_X7_copyRow
  simp (disch := first | omega | assumption) only [nq_neg, nq_fix, nq_sub1, nq_addN, nq_add, nq_mul, nq_sub, nq_ltN, nq_Nlt, nq_leN, nq_Nle, nq_lt, nq_le, nq_eq, nq_div, nq_pow, nq_tn, rd_W, wr_W, nS_eq, nS_ne, Option.bind_some, Option.bind_none, ↓reduceIte, Bool.false_eq_true, Nat.reduceEqDiff, Nat.reduceLT, Nat.reduceLeDiff, Nat.reduceAdd, Nat.reduceMul, Nat.reduceSub, Nat.reducePow, Nat.add_sub_cancel, Nat.zero_le, Nat.not_lt_zero, Nat.le_refl, Nat.lt_irrefl, l_0, l_1, l_2, l_3, l_4, l_5, l_6, l_7, l_8, l_9, l_10, l_13, l_14, l_16, l_20, l_24, l_26, l_30, l_31, l_32, l_48, l_57, l_59, l_63, l_96, l_97, l_100, l_122, l_200, l_255, l_256, l_270, l_400, l_429, l_526, l_780, l_800, l_926, l_1726, l_12082, ite_self, show ¬ (N < n) by omega]
  by_cases h1 : n = 0
  · subst h1
    simp (disch := first | omega | assumption) only [nq_neg, nq_fix, nq_sub1, nq_addN, nq_add, nq_mul, nq_sub, nq_ltN, nq_Nlt, nq_leN, nq_Nle, nq_lt, nq_le, nq_eq, nq_div, nq_pow, nq_tn, rd_W, wr_W, nS_eq, nS_ne, Option.bind_some, Option.bind_none, ↓reduceIte, Bool.false_eq_true, Nat.reduceEqDiff, Nat.reduceLT, Nat.reduceLeDiff, Nat.reduceAdd, Nat.reduceMul, Nat.reduceSub, Nat.reducePow, Nat.add_sub_cancel, Nat.zero_le, Nat.not_lt_zero, Nat.le_refl, Nat.lt_irrefl, l_0, l_1, l_2, l_3, l_4, l_5, l_6, l_7, l_8, l_9, l_10, l_13, l_14, l_16, l_20, l_24, l_26, l_30, l_31, l_32, l_48, l_57, l_59, l_63, l_96, l_97, l_100, l_122, l_200, l_255, l_256, l_270, l_400, l_429, l_526, l_780, l_800, l_926, l_1726, l_12082]
  · rw [if_neg (by omega)]
    unfold j_cpy
    simp (disch := first | omega | assumption) only [nq_neg, nq_fix, nq_sub1, nq_addN, nq_add, nq_mul, nq_sub, nq_ltN, nq_Nlt, nq_leN, nq_Nle, nq_lt, nq_le, nq_eq, nq_div, nq_pow, nq_tn, rd_W, wr_W, nS_eq, nS_ne, Option.bind_some, Option.bind_none, ↓reduceIte, Bool.false_eq_true, Nat.reduceEqDiff, Nat.reduceLT, Nat.reduceLeDiff, Nat.reduceAdd, Nat.reduceMul, Nat.reduceSub, Nat.reducePow, Nat.add_sub_cancel, Nat.zero_le, Nat.not_lt_zero, Nat.le_refl, Nat.lt_irrefl, l_0, l_1, l_2, l_3, l_4, l_5, l_6, l_7, l_8, l_9, l_10, l_13, l_14, l_16, l_20, l_24, l_26, l_30, l_31, l_32, l_48, l_57, l_59, l_63, l_96, l_97, l_100, l_122, l_200, l_255, l_256, l_270, l_400, l_429, l_526, l_780, l_800, l_926, l_1726, l_12082, Nat.zero_add, show ¬ (N < n) by omega, or_self]
    refine congrArg some (funext fun k => ?_)
    show (if 0 ≤ k ∧ k < 0 + n then f (0 + (k - 0)) else h k) = if k < n then f k else h k
    by_cases h2 : k < n
    · rw [if_pos ⟨by omega, by omega⟩, if_pos h2, Nat.zero_add, Nat.sub_zero]
    · rw [if_neg (by omega), if_neg h2]
theorem m_kd_b (fu : Nat) (r : Nat → Int32) (n : Nat) (hn : n ≤ 400) (x : Int32) : ∀ m k (h : Nat → Int32), k ≤ n → n < m + k →
    ∃ h', J_X8_keepsDecoded_b10 fu r x m h (nI n) (nI k) = some (h', nI n) ∧ (∀ i, i < k → h' i = h i) ∧ ∀ i, k ≤ i → i < n → h' i = r i := by
  intro m
  induction m with
  | zero => intro k h h1 h2; omega
  | succ m ih =>
    intro k h h1 h2
    rw [J_X8_keepsDecoded_b10]
    by_cases c : n ≤ k
    · rw [if_pos (by rw [nq_le _ _ (by omega) (by omega)]; exact c)]
      exact ⟨h, rfl, fun i _ => rfl, fun i h3 h4 => by omega⟩
    · rw [if_neg (by rw [nq_le _ _ (by omega) (by omega)]; exact c), rd_F 400 r k (by omega) (by omega)]
      simp only [Option.bind_some]
      rw [wr_F 400 h k _ (by omega) (by omega)]
      simp only [Option.bind_some, l_1, nq_add]
      obtain ⟨h', a1, a2, a3⟩ := ih (k + 1) (upd h k (r k)) (by omega) (by omega)
      refine ⟨h', a1, fun i hi => ?_, fun i h3 h4 => ?_⟩
      · rw [a2 i (by omega)]
        exact if_neg (by omega)
      · by_cases d : i = k
        · rw [d, a2 k (by omega)]
          exact if_pos rfl
        · exact a3 i (by omega) h4
theorem t_decode (fu : Nat) (hf : 20000 ≤ fu) (t : Int32) {ee : ES} {g : Nat → Nat} (h : RE ee g) (hg : GOOD g) {oo : OS} (ho : OF oo) {f v : Nat → Int32} {T : Nat} {b : Nat → Nat} (hT : TP f v T b) {fd vd : Nat → Int32} {nd : Nat} (hdd : DD fd vd nd) (er er' : Int32) (tt : TS) (P0 L0 r0 : Nat → Nat) (y1 y2 y3 y4 y5 y6 : Int32) (y7 : Int64) (y8 y9 y10 : Int32) :
    ∃ (oo' : OS) (tt' : TS) (P L r : Nat → Nat) (x1 x2 x3 x4 x5 x6 : Int32) (x7 : Int64) (x8 x9 x10 : Int32), OF oo' ∧
    ((∃ w fd' vd' nd', J_X7_decode fu (nI T) er (nI nd) f fd ee oo tt = some (.inl w, nI 0, nI 4294967295, nI nd', fd', oo', tt') ∧
      J_X8_decode fu v (nI T) er' t (nW g) (nW P0) (nW L0) y1 y2 (nW r0) y3 vd (nI nd) y4 y5 y6 y7 y8 y9 y10 = some (w, nI 0, nI 4294967295, nI 0, nW P, nW L, x1, x2, nW r, x3, vd', nI nd', x4, x5, x6, x7, x8, x9, x10) ∧ DD fd' vd' nd') ∨
     (∃ p, J_X7_decode fu (nI T) er (nI nd) f fd ee oo tt = some (.inr "java/lang/IllegalArgumentException", nI 0, nI p, nI nd, fd, oo', tt') ∧
      J_X8_decode fu v (nI T) er' t (nW g) (nW P0) (nW L0) y1 y2 (nW r0) y3 vd (nI nd) y4 y5 y6 y7 y8 y9 y10 = some (nI 0, nI 0, nI p, nI 1, nW P, nW L, x1, x2, nW r, x3, vd, nI nd, x4, x5, x6, x7, x8, x9, x10))) := by
  have hs := SET_of hg.1
  unfold SET at hs
  obtain ⟨hT8, hb⟩ := hT
  have hv1 : ∀ k, k < T → b k < 256 ∧ f k = nI (b k) := fun k hk => ⟨(hb k hk).1, (hb k hk).2.1⟩
  have hv2 : ∀ k, k < T → b k < 256 ∧ v k = sb (b k) := fun k hk => ⟨(hb k hk).1, (hb k hk).2.2⟩
  obtain ⟨p, l, le, nw, od, en, wr, wi, he, hr, hen, hww⟩ := h
  have hed : e_d ee = dN p l le nw od (g 0) (g 1) (g 4) := by rw [he]; rfl
  obtain ⟨o1, a1, a2⟩ := k_obegin fu (by omega) ho p l le nw od (g 0) (g 1) (g 4) (by omega) P0 L0
  obtain ⟨k, s, n, htk⟩ := tk_ex b T 0 (by omega)
  have b1 := k_step fu hf hT8 hv1 htk (nI 0) (nI 0)
  obtain ⟨w1, l1, m1, c1, c2⟩ := m_next fu hf hT8 hv2 htk y5 y6 y7 y8 y9
  have hd0 : DW (g 0) (2 ^ g 1) (g 0 + 1, P0, L0, 4294967295, []) := ⟨Nat.le_refl _, by omega, fun k h1 h2 => by omega, fun j k h1 h2 h3 => by omega, .inl rfl, Nat.zero_le _⟩
  obtain ⟨o', t', d', r', x2, x3, x4, x5, x6, x7, q1, q2, q3, q4⟩ := dec_b fu hf hT8 hv1 hv2 g (by omega) (by omega) (by omega) (nI 4294967295) t vd (nI nd) (T + 1) 0 (by omega) (by omega) k s n htk (g 0 + 1, P0, L0, 4294967295, []) o1 r0 hd0 a2 (fun i hi => absurd hi (Nat.not_lt_zero _)) w1 l1 m1 c2 fu fu 0 (by omega) (by omega) (by omega)
  have hsd : J_X8_startsDecoder (nW g) y1 y2 y3 = some (nI (g 0 + 1), nI 4294967295, nI 0) := by
    unfold J_X8_startsDecoder
    rw [l_0, rd_W 1726 g 0 (by omega) (by omega)]
    simp only [Option.bind_some, l_1, nq_add, nq_neg]
  have hk : J_X7_decode fu (nI T) er (nI nd) f fd ee oo tt = ((J_X0_readCodes_b6 fu 800 f fu o1 (mkT (nI T) (nI k) (nI s) (nI n)) (nI 0)).bind fun z5 =>
      if z5.1 = 0 then some (Sum.inr "java/lang/IllegalArgumentException", (0 : Int32), (t_start z5.2.2), nI nd, fd, z5.2.1, z5.2.2)
      else (J_X7_copyRow 400 (o_symbols z5.2.1) 400 fd (o_count z5.2.1)).bind fun z8 => some (Sum.inl (o_count z5.2.1), (0 : Int32), (-1 : Int32), (o_count z5.2.1), z8, z5.2.1, z5.2.2)) := by
    unfold J_X7_decode J_X6_begin
    rw [hed]
    simp only [Option.bind_some]
    rw [a1]
    simp only [Option.bind_some]
    unfold J_X0_readCodes
    rw [show mkT (nI T) (0 : Int32) (0 : Int32) (0 : Int32) = mkT (nI T) (nI 0) (nI 0) (nI 0) from rfl, b1]
    rfl
  have hm : J_X8_decode fu v (nI T) er' t (nW g) (nW P0) (nW L0) y1 y2 (nW r0) y3 vd (nI nd) y4 y5 y6 y7 y8 y9 y10 = J_X8_decode_b8 fu v (nW g) fu (nI T) (nI 4294967295) t (nW P0) (nW L0) (nI (g 0 + 1)) (nI 4294967295) (nW r0) (nI 0) vd (nI nd) (nI n) (nI s) (nI k) w1 l1 m1 (nI 1) := by
    unfold J_X8_decode J_X8_startsReading
    rw [l_0, c1]
    simp only [Option.bind_some, l_1, nq_neg]
    rw [hsd]
    rfl
  rw [hk, hm]
  refine ⟨o', t', d'.2.1, d'.2.2.1, r', nI d'.1, nI d'.2.2.2.1, nI d'.2.2.2.2.length, x2, x3, x4, x5, x6, x7, ?_⟩
  have hof := RO.OF q2
  rcases q4 with ⟨e1, e2⟩ | ⟨pp, e1, e2, e3⟩
  · refine ⟨nI 1, hof, .inl ?_⟩
    obtain ⟨p1, l1', le1, nw1, od1, sy, hoe, _, hsy⟩ := q2
    have hlen : d'.2.2.2.2.length ≤ 400 := q1.2.2.2.2.2
    have hos : o_symbols o' = nW sy := by rw [hoe]
    have hoc : o_count o' = nI d'.2.2.2.2.length := by rw [hoe]
    obtain ⟨vd', f1, f2, f3⟩ := m_kd_b fu (nW r') d'.2.2.2.2.length hlen (nI d'.2.2.2.2.length) fu 0 vd (by omega) (by omega)
    refine ⟨nI d'.2.2.2.2.length, fun i => if i < d'.2.2.2.2.length then nW sy i else fd i, vd', d'.2.2.2.2.length, ?_, ?_, hlen, fun i hi => ?_⟩
    · rw [e1]
      simp only [Option.bind_some]
      rw [if_neg (show ¬ (nI 1 = 0) by decide), hos, hoc, copy_F 400 _ _ _ hlen (by omega)]
      rfl
    · rw [show J_X8_decode_b8 fu v (nW g) fu (nI T) (nI 4294967295) t (nW P0) (nW L0) (nI (g 0 + 1)) (nI 4294967295) (nW r0) (nI 0) vd (nI nd) (nI n) (nI s) (nI k) w1 l1 m1 (nI 1) = _ from e2]
      unfold J_X8_decode_b53 J_X8_keepsDecoded
      rw [if_neg (show ¬ (nI 1 = 0) by decide), l_0, f1]
      rfl
    · show (if i < d'.2.2.2.2.length then nW sy i else fd i) = vd' i
      rw [if_pos hi, f3 i (Nat.zero_le _) hi]
      show nI (sy i) = nI (r' i)
      rw [hsy i hi, q3 i hi]
  · refine ⟨nI 0, hof, .inr ⟨pp, ?_, ?_⟩⟩
    · rw [e1]
      simp only [Option.bind_some]
      rw [if_pos n00, e2]
      rfl
    · rw [show J_X8_decode_b8 fu v (nW g) fu (nI T) (nI 4294967295) t (nW P0) (nW L0) (nI (g 0 + 1)) (nI 4294967295) (nW r0) (nI 0) vd (nI nd) (nI n) (nI s) (nI k) w1 l1 m1 (nI 1) = _ from e3]
      unfold J_X8_decode_b53
      rw [if_pos n00]
      rfl
