/-! the phrase on the tape, both sides -/
theorem neg1 : (-1 : Int32) = nI 4294967295 := by decide
theorem k_lb (fu : Nat) (hf : 20000 ≤ fu) {ee : ES} {g : Nat → Nat} (h : RE ee g) (hg : GOOD g) (c s : Nat) (hc : c < g 4) (hs : s < g 0) : J_X1_longerBy fu (e_d ee) (nI c) (nI s) = some (nI (gk g c s)) := by
  obtain ⟨⟨hz2, h0, hw3, h1, hz, h4⟩, wd, ud⟩ := id hg.1.1.1
  obtain ⟨p, l, le, nw, od, en, wr, wi, rfl, hr, hen, hww⟩ := h
  exact k_longerBy fu (by omega) p l le nw od (g 0) (g 1) (g 4) (gP g) (gL g) hr wd ud (by omega) h4 c s hc hs
def cds (g b : Nat → Nat) : Nat → Nat
| 0 => 4294967295
| k + 1 => if k = 0 then b 0 - 97 else if cds g b k = 4294967295 then 4294967295 else gk g (cds g b k) (b k - 97)
theorem cds_lt (g b : Nat → Nat) (hz : g 0 < g 4) : ∀ k, (∀ j, j < k → LT b (g 0) j) → cds g b k = 4294967295 ∨ cds g b k < g 4 := by
  intro k
  induction k with
  | zero => intro _; exact .inl rfl
  | succ k ih =>
    intro h
    show (if k = 0 then b 0 - 97 else if cds g b k = 4294967295 then 4294967295 else gk g (cds g b k) (b k - 97)) = 4294967295 ∨ (if k = 0 then b 0 - 97 else if cds g b k = 4294967295 then 4294967295 else gk g (cds g b k) (b k - 97)) < g 4
    by_cases c : k = 0
    · rw [if_pos c]
      have := h 0 (by omega)
      unfold LT at this
      exact .inr (by omega)
    · rw [if_neg c]
      by_cases d : cds g b k = 4294967295
      · rw [if_pos d]; exact .inl rfl
      · rw [if_neg d]
        rcases gk_cases (g := g) (cds g b k) (b k - 97) with e | ⟨_, e⟩
        · exact .inl e
        · exact .inr e
theorem cds_no (g b : Nat → Nat) (k : Nat) (hk : 0 < k) (h : cds g b k = 4294967295) : ∀ m, k ≤ m → cds g b m = 4294967295 := by
  intro m
  induction m with
  | zero => intro h1; omega
  | succ m ih =>
    intro h1
    by_cases c : k = m + 1
    · rw [← c]; exact h
    · have := ih (by omega)
      show (if m = 0 then b 0 - 97 else if cds g b m = 4294967295 then 4294967295 else gk g (cds g b m) (b m - 97)) = 4294967295
      rw [if_neg (by omega), if_pos this]
theorem k_ct_b (fu : Nat) (hf : 20000 ≤ fu) {ee : ES} {g : Nat → Nat} (h : RE ee g) (hg : GOOD g) (f f_dec : Nat → Int32) (oo : OS) (tt : TS) (rr : RS) (sw : SS) (hh : HS) (b : Nat → Nat) (T : Nat) (hT : T ≤ 800) (hv : ∀ k, k < T → b k < 256 ∧ f k = nI (b k)) : ∀ n k, k ≤ T → T < n + k → (∀ j, j < k → LT b (g 0) j) → (k = 0 ∨ cds g b k ≠ 4294967295) →
    ((∀ j, j < T → LT b (g 0) j) → J_X7_codeOfTape_b4 fu (nI T) f f_dec ee oo tt rr sw hh n (nI (cds g b k)) (nI k) = some (nI (cds g b T))) ∧
    (¬ (∀ j, j < T → LT b (g 0) j) → J_X7_codeOfTape_b4 fu (nI T) f f_dec ee oo tt rr sw hh n (nI (cds g b k)) (nI k) = some (nI 4294967295)) := by
  intro n
  have hs := SET_of hg.1
  unfold SET at hs
  obtain ⟨⟨hz2, h0, hw3, h1, hz, h4⟩, wd, ud⟩ := id hg.1.1.1
  have hda : d_alphabet (e_d ee) = nI (g 0) := by obtain ⟨p, l, le, nw, od, en, wr, wi, rfl, _⟩ := h; rfl
  induction n with
  | zero => intro k h1 h2; omega
  | succ n ih =>
    intro k h1 h2 h3 h5
    by_cases c : k = T
    · subst c
      refine ⟨fun _ => ?_, fun h => absurd h3 h⟩
      unfold J_X7_codeOfTape_b4
      rw [if_pos (by rw [nq_le _ _ (by omega) (by omega)]; omega)]
    · have hvk := hv k (by omega)
      have hm := k_isLetter (ee := ee) (g := g) hda h0 b k hvk.1
      have hc := cds_lt g b (by omega) k h3
      rw [J_X7_codeOfTape_b4]
      rw [if_neg (by rw [nq_le _ _ (by omega) (by omega)]; omega), at_F 800 f k (by omega) (by omega), hvk.2]
      simp only [Option.bind_some, l_1, l_97, nq_add, nq_neg]
      by_cases d : LT b (g 0) k
      · obtain ⟨m1, m2⟩ := hm.1 d
        have h3' : ∀ j, j < k + 1 → LT b (g 0) j := fun j hj => by
          by_cases q : j = k
          · rw [q]; exact d
          · exact h3 j (by omega)
        unfold LT at d
        rw [m2, m1]
        simp only [Option.bind_some]
        rw [if_neg (by decide)]
        by_cases e : k = 0
        · subst e
          have e1 : cds g b (0 + 1) = b 0 - 97 := if_pos rfl
          have := ih (0 + 1) (by omega) (by omega) h3' (.inr (by rw [e1]; omega))
          rw [e1] at this
          rw [if_pos (show nI 0 = (0 : Int32) from rfl), if_neg (by rw [nq_eq _ _ (by omega) (by omega)]; omega)]
          exact this
        · have hcn := h5.resolve_left e
          have hc4 := hc.resolve_left hcn
          have e1 : cds g b (k + 1) = gk g (cds g b k) (b k - 97) := by
            show (if k = 0 then b 0 - 97 else if cds g b k = 4294967295 then 4294967295 else gk g (cds g b k) (b k - 97)) = _
            rw [if_neg e, if_neg hcn]
          rw [if_neg (by rw [l_0, nq_eq _ _ (by omega) (by omega)]; exact e), k_lb fu hf h hg _ _ hc4 (by omega), ← e1]
          simp only [Option.bind_some]
          by_cases q : cds g b (k + 1) = 4294967295
          · rw [q, if_pos rfl]
            refine ⟨fun _ => ?_, fun _ => rfl⟩
            rw [cds_no g b (k + 1) (by omega) q T (by omega)]
          · have hb := (cds_lt g b (by omega) (k + 1) h3').resolve_left q
            rw [if_neg (by rw [nq_eq _ _ (by omega) (by omega)]; exact q)]
            exact ih (k + 1) (by omega) (by omega) h3' (.inr q)
      · rw [hm.2 d]
        simp only [Option.bind_some]
        rw [if_pos (show nI 0 = (0 : Int32) from rfl)]
        exact ⟨fun h => absurd (h k (by omega)) d, fun _ => rfl⟩
theorem m_ot_b (fu : Nat) (hf : 20000 ≤ fu) {g : Nat → Nat} (hg : GOOD g) (v : Nat → Int32) (b : Nat → Nat) (T : Nat) (hT : T ≤ 800) (hv : ∀ k, k < T → b k < 256 ∧ v k = sb (b k)) (hl : ∀ j, j < T → LT b (g 0) j) : ∀ n k, 1 ≤ k → k ≤ T → T < n + k →
    J_X8_onTape_b33 fu v (nI T) (nW g) n (nI (cds g b k)) (nI k) = some (nI (cds g b T)) := by
  intro n
  obtain ⟨⟨hz2, h0, hw3, h1, hz, h4⟩, wd, ud⟩ := id hg.1.1.1
  induction n with
  | zero => intro k h1 h2 h3; omega
  | succ n ih =>
    intro k hk h1 h2
    unfold J_X8_onTape_b33
    by_cases c : k = T
    · subst c
      rw [if_pos (by rw [nq_le _ _ (by omega) (by omega)]; omega)]
    · rw [if_neg (by rw [nq_le _ _ (by omega) (by omega)]; omega)]
      have d := hl k (by omega)
      unfold LT at d
      rcases cds_lt g b (by omega) k (fun j hj => hl j (by omega)) with e | e
      · rw [e, if_pos (by decide), cds_no g b k (by omega) e T h1]
      · have e1 : cds g b (k + 1) = gk g (cds g b k) (b k - 97) := by
          show (if k = 0 then b 0 - 97 else if cds g b k = 4294967295 then 4294967295 else gk g (cds g b k) (b k - 97)) = _
          rw [if_neg (by omega), if_neg (by omega)]
        have e2 : sb (b k) - nI 97 = nI (b k - 97) := by
          rcases ltr (b k) (g 0) (hv k (by omega)).1 (by omega) with ⟨_, _, q, _⟩ | ⟨q, _⟩
          · exact q
          · exact absurd d q
        rw [if_neg (by rw [l_0, nq_lt _ _ (by omega) (by omega)]; omega), rd_F 800 v k (by omega) (by omega), (hv k (by omega)).2]
        simp only [Option.bind_some, l_97, l_1, nq_add]
        rw [e2, m_longer fu (by omega) g hg.1.1.1 _ _ (by omega) (by omega), ← e1]
        exact ih (k + 1) (by omega) (by omega) (by omega)
theorem t_findTape (fu : Nat) (hf : 20000 ≤ fu) (t : Int32) {ee : ES} {g : Nat → Nat} (h : RE ee g) (hg : GOOD g) {f v : Nat → Int32} {T : Nat} {b : Nat → Nat} (hT : TP f v T b) (f_dec : Nat → Int32) (oo : OS) (tt : TS) (rr : RS) (sw : SS) (hh : HS) :
    (∃ r, J_X7_findTape fu (nI T) f f_dec ee oo tt rr sw hh = some (.inl r) ∧ J_X8_findTape fu v (nI T) t (nW g) = some (r, nI 0)) ∨
    (J_X7_findTape fu (nI T) f f_dec ee oo tt rr sw hh = some (.inr "java/util/NoSuchElementException") ∧ J_X8_findTape fu v (nI T) t (nW g) = some (nI 0, nI 1)) := by
  obtain ⟨⟨hz2, h0, hw3, h1, hz, h4⟩, wd, ud⟩ := id hg.1.1.1
  have hT8 := hT.1
  have hv1 : ∀ k, k < T → b k < 256 ∧ f k = nI (b k) := fun k hk => ⟨(hT.2 k hk).1, (hT.2 k hk).2.1⟩
  have hv2 : ∀ k, k < T → b k < 256 ∧ v k = sb (b k) := fun k hk => ⟨(hT.2 k hk).1, (hT.2 k hk).2.2⟩
  have hv3 : ∀ k, k < T → b (0 + k) < 256 ∧ v (0 + k) = sb (b (0 + k)) := fun k hk => by rw [Nat.zero_add]; exact hv2 k hk
  have ea := m_areLetters fu hf v g (by omega) (by omega) b 0 T (by omega) hv3
  have ek := k_ct_b fu hf h hg f f_dec oo tt rr sw hh b T hT8 hv1 fu 0 (by omega) (by omega) (fun j hj => by omega) (.inl rfl)
  have main : ∃ r, (r = 4294967295 ∨ r < g 4) ∧ J_X7_codeOfTape fu (nI T) f f_dec ee oo tt rr sw hh = some (nI r) ∧ J_X8_onTape fu v (nI T) (nW g) = some (nI r) := by
    unfold J_X7_codeOfTape J_X8_onTape
    rw [neg1]
    by_cases c : ∀ j, j < T → LT b (g 0) j
    · have c' : ∀ j, j < T → LT b (g 0) (0 + j) := fun j hj => by rw [Nat.zero_add]; exact c j hj
      refine ⟨cds g b T, cds_lt g b (by omega) T c, ek.1 c, ?_⟩
      by_cases d : T = 0
      · rw [if_pos (by rw [d]; rfl), d]; rfl
      · have e := m_ot_b fu hf hg v b T hT8 hv2 c fu 1 (by omega) (by omega) (by omega)
        have e2 : sb (b 0) - nI 97 = nI (b 0 - 97) := by
          have q1 := c 0 (by omega)
          unfold LT at q1
          rcases ltr (b 0) (g 0) (hv2 0 (by omega)).1 (by omega) with ⟨_, _, q, _⟩ | ⟨q, _⟩
          · exact q
          · exact absurd q1 q
        rw [if_neg (by rw [l_0, nq_eq _ _ (by omega) (by omega)]; exact d), l_0, ea.1 c']
        simp only [Option.bind_some]
        rw [if_neg (by decide), rd_F 800 v 0 (by omega) (by omega), (hv2 0 (by omega)).2]
        simp only [Option.bind_some, l_97]
        rw [e2]
        exact e
    · have c' : ¬ ∀ j, j < T → LT b (g 0) (0 + j) := fun h => c fun j hj => by have := h j hj; rw [Nat.zero_add] at this; exact this
      refine ⟨4294967295, .inl rfl, ek.2 c, ?_⟩
      by_cases d : T = 0
      · rw [if_pos (by rw [d]; rfl)]
      · rw [if_neg (by rw [l_0, nq_eq _ _ (by omega) (by omega)]; exact d), l_0, ea.2 c']
        rfl
  obtain ⟨r, hr, e1, e2⟩ := main
  unfold J_X7_findTape J_X8_findTape
  rw [e1, e2, neg1]
  simp only [Option.bind_some]
  rcases hr with rfl | hr
  · exact .inr ⟨rfl, rfl⟩
  · refine .inl ⟨nI r, ?_, ?_⟩
    · rw [if_neg (by rw [nq_eq _ _ (by omega) (by omega)]; omega)]
    · rw [if_pos (by rw [l_0, nq_le _ _ (by omega) (by omega)]; omega)]
      rfl
/-! the decoded text, both sides: looks -/
def DD (fd vd : Nat → Int32) (n : Nat) : Prop := n ≤ 400 ∧ ∀ i, i < n → fd i = vd i
theorem t_decodedCount (t : Int32) (n : Nat) : J_X7_decodedCount (nI n) = some (nI n) ∧ J_X8_decodedCount t (nI n) = some (nI n, nI 0) := ⟨rfl, rfl⟩
theorem t_errorPosition (t x : Int32) : J_X7_errorPosition x = some x ∧ J_X8_errorPosition x t = some (x, nI 0) := ⟨rfl, rfl⟩
theorem t_decodedSymbol (t : Int32) {fd vd : Nat → Int32} {n : Nat} (h : DD fd vd n) (x : Int32) :
    (∃ v, J_X7_decodedSymbol (nI n) fd x = some (.inl v) ∧ J_X8_decodedSymbol t vd (nI n) x = some (v, nI 0)) ∨
    (J_X7_decodedSymbol (nI n) fd x = some (.inr "java/lang/IndexOutOfBoundsException") ∧ J_X8_decodedSymbol t vd (nI n) x = some (nI 0, nI 1)) := by
  have hn := h.1
  unfold J_X7_decodedSymbol J_X8_decodedSymbol
  rw [l_0, l_1]
  rcases ix_cases x n (by omega) with ⟨p, hp, rfl, a, b⟩ | ⟨a, b⟩
  · rw [a, b]
    refine .inl ⟨fd p, ?_, ?_⟩
    · simp only [Option.bind_some, tr_l]
      rw [at_F 400 fd p (by omega) (by omega)]
      rfl
    · simp only [Option.bind_some]
      rw [if_neg (by decide), rd_F 400 vd p (by omega) (by omega), ← h.2 p hp]
      rfl
  · rw [a, b]
    exact .inr ⟨rfl, rfl⟩
theorem more_eq (a b : Int32) : J_X8_more a b = some (if a < b then b else a) := by
  unfold J_X8_more
  by_cases c : a ≤ b
  · rw [if_pos c]
    by_cases d : a < b
    · rw [if_pos d]
    · rw [if_neg d]
      refine congrArg some (Int32.toInt_inj.mp ?_)
      have c' := Int32.le_iff_toInt_le.mp c
      have d' := (not_congr Int32.lt_iff_toInt_lt).mp d
      omega
  · rw [if_neg c, if_neg (fun d => c (Int32.le_iff_toInt_le.mpr (by have := Int32.lt_iff_toInt_lt.mp d; omega)))]
theorem run_b (fu : Nat) (t : Int32) {fd vd : Nat → Int32} {n : Nat} (h : DD fd vd n) : ∀ m k y1 y2, k ≤ n → n < m + k →
    ∃ w, J_X7_longestDecodedRun_b6 fu (nI n) fd m y1 y2 (nI k) = some w ∧ J_X8_longestDecodedRun_b6 fu vd (nI n) m t y1 y2 (nI k) = some (w, nI 0) := by
  intro m
  have hn := h.1
  induction m with
  | zero => intro k y1 y2 h1 h2; omega
  | succ m ih =>
    intro k y1 y2 h1 h2
    unfold J_X7_longestDecodedRun_b6 J_X8_longestDecodedRun_b6
    try simp (disch := first | omega | assumption) only [nq_le, nq_lt, nq_eq]
    by_cases c : n ≤ k
    · rw [if_pos c, if_pos c]
      exact ⟨y1, rfl, rfl⟩
    · rw [if_neg c, if_neg c]
      simp only [more_eq, Option.bind_some, if_pos (show (0 : Int32) = 0 from rfl), if_neg (show ¬ ((1 : Int32) = 0) by decide)]
      have hk1 : nI k + (1 : Int32) = nI (k + 1) := by rw [l_1, nq_add]
      rw [hk1, l_0]
      try simp (disch := first | omega | assumption) only [nq_le, nq_lt, nq_eq]
      by_cases d : k ≤ 0
      · rw [if_pos d, if_pos d]
        exact ih (k + 1) _ _ (by omega) (by omega)
      · rw [if_neg d, if_neg d, show nI k - (1 : Int32) = nI (k - 1) from nq_sub k 1 (by omega), at_F 400 fd k (by omega) (by omega), at_F 400 fd (k - 1) (by omega) (by omega), rd_F 400 vd k (by omega) (by omega), rd_F 400 vd (k - 1) (by omega) (by omega), ← h.2 k (by omega), ← h.2 (k - 1) (by omega)]
        simp only [Option.bind_some]
        by_cases q : fd k = fd (k - 1)
        · rw [if_pos q, if_pos q]
          exact ih (k + 1) _ _ (by omega) (by omega)
        · rw [if_neg q, if_neg q]
          exact ih (k + 1) _ _ (by omega) (by omega)
theorem t_longestDecodedRun (fu : Nat) (hf : 20000 ≤ fu) (t : Int32) {fd vd : Nat → Int32} {n : Nat} (h : DD fd vd n) :
    ∃ w, J_X7_longestDecodedRun fu (nI n) fd = some w ∧ J_X8_longestDecodedRun fu t vd (nI n) = some (w, nI 0) := by
  have hn := h.1
  exact run_b fu t h fu 0 0 0 (by omega) (by omega)
