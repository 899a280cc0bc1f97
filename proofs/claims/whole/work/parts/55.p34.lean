/-! the setup text: the model's side -/
theorem nar_as : ∀ c, c < 128 → vp_nar .byte (nI c).toInt8.toInt32 = nI c := by decide +kernel
theorem m_says {r : Nat → Int32} {l : List Nat} (h : RW r l) (c : Nat) (hc : c < 128) (hl : l.length < 500) : ∃ r', J_X8_says r (nI l.length) (nI c) = some (r', nI (l ++ [c]).length) ∧ RW r' (l ++ [c]) := by
  refine ⟨upd r l.length (nI c), ?_, RW_add h c⟩
  unfold J_X8_says
  rw [nar_as c hc, wr_F 500 r _ _ hl (by omega), len1, ← nq_add]
  rfl
theorem five : ∀ k, k < 8 → nI (5 * (k + 1)) + (-5 : Int32) = nI (5 * k) := by decide
theorem m_sw18 (fu : Nat) (K : Int64) (m : Nat) (cs : List Nat) (hm : m < 8) (H3 : ∀ i, i ≤ m → (96 : Int32) + (((K >>> ((nI (5 * (m - i))).toInt64 &&& 63)) &&& (31 : Int64)).toInt32) = nI (cs.getD i 0) ∧ cs.getD i 0 < 128) (H5 : tkN cs (m + 1) = cs) (l : List Nat) (hl : l.length + (m + 1) ≤ 500) : ∀ k, k ≤ m → ∀ n r, k + 1 < n → RW r (l ++ tkN cs (m - k)) →
    ∃ r', J_X8_saysWord_b18 fu n r (nI (l ++ tkN cs (m - k)).length) K (nI (5 * k)) = some (r', nI (l ++ cs).length) ∧ RW r' (l ++ cs) := by
  intro k
  induction k with
  | zero =>
    intro _ n r hn hr
    obtain ⟨n, rfl⟩ : ∃ j, n = j + 2 := ⟨n - 2, by omega⟩
    obtain ⟨e1, e2⟩ := H3 m (Nat.le_refl _)
    rw [Nat.sub_self] at e1
    obtain ⟨r', a1, a2⟩ := m_says hr (cs.getD m 0) e2 (by rw [List.length_append, tkN_len]; omega)
    rw [Nat.sub_zero] at a1 a2 ⊢
    rw [List.append_assoc, ← tkN_s, H5] at a1 a2
    refine ⟨r', ?_, a2⟩
    rw [J_X8_saysWord_b18, if_neg (by decide), e1, a1]
    simp only [Option.bind_some]
    rw [J_X8_saysWord_b18, if_pos (by decide)]
  | succ k ih =>
    intro hk n r hn hr
    obtain ⟨n, rfl⟩ : ∃ j, n = j + 1 := ⟨n - 1, by omega⟩
    obtain ⟨e1, e2⟩ := H3 (m - (k + 1)) (by omega)
    rw [show m - (m - (k + 1)) = k + 1 by omega] at e1
    obtain ⟨r1, a1, a2⟩ := m_says hr (cs.getD (m - (k + 1)) 0) e2 (by rw [List.length_append, tkN_len]; omega)
    rw [List.append_assoc, ← tkN_s, show m - (k + 1) + 1 = m - k by omega] at a1 a2
    obtain ⟨r2, b1, b2⟩ := ih (by omega) n r1 (by omega) a2
    refine ⟨r2, ?_, b2⟩
    rw [J_X8_saysWord_b18, if_neg (by rw [l_0, nq_lt _ _ (by omega) (by omega)]; omega), e1, a1]
    simp only [Option.bind_some]
    rw [five k (by omega)]
    exact b1
theorem m_sw2 (fu : Nat) (K : Int64) (m : Nat) (H1 : ∀ i, i < m → ¬ ((lg_cmp (K >>> ((nI (5 * i) + (5 : Int32)).toInt64 &&& 63)) (0 : Int64)) ≤ 0)) (H2 : (lg_cmp (K >>> ((nI (5 * m) + (5 : Int32)).toInt64 &&& 63)) (0 : Int64)) ≤ 0) (r : Nat → Int32) (x : Int32) : ∀ n i, i ≤ m → m < n + i →
    J_X8_saysWord_b2 fu n r x K (nI (5 * i)) = J_X8_saysWord_b18 fu fu r x K (nI (5 * m)) := by
  intro n
  induction n with
  | zero => intro i h1 h2; omega
  | succ n ih =>
    intro i h1 h2
    rw [J_X8_saysWord_b2]
    by_cases c : i = m
    · subst c
      rw [if_pos H2]
    · rw [if_neg (H1 i (by omega)), show nI (5 * i) + (5 : Int32) = nI (5 * (i + 1)) from by rw [l_5, nq_add]; rfl]
      exact ih (i + 1) (by omega) (by omega)
theorem m_word (fu : Nat) (hf : 20000 ≤ fu) (K : Int64) (m : Nat) (cs : List Nat) (hm : m < 8) (H1 : ∀ i, i < m → ¬ ((lg_cmp (K >>> ((nI (5 * i) + (5 : Int32)).toInt64 &&& 63)) (0 : Int64)) ≤ 0)) (H2 : (lg_cmp (K >>> ((nI (5 * m) + (5 : Int32)).toInt64 &&& 63)) (0 : Int64)) ≤ 0)
    (H3 : ∀ i, i < m + 1 → (96 : Int32) + (((K >>> ((nI (5 * (m - i))).toInt64 &&& 63)) &&& (31 : Int64)).toInt32) = nI (cs.getD i 0) ∧ cs.getD i 0 < 128) (H5 : tkN cs (m + 1) = cs) {r : Nat → Int32} {l : List Nat} (h : RW r l) (hl : l.length + (m + 1) ≤ 500) :
    ∃ r', J_X8_saysWord fu r (nI l.length) K = some (r', nI (l ++ cs).length) ∧ RW r' (l ++ cs) := by
  have e := m_sw2 fu K m H1 H2 r (nI l.length) fu 0 (by omega) (by omega)
  have e2 := m_sw18 fu K m cs hm (fun i hi => H3 i (by omega)) H5 l hl m (Nat.le_refl _) fu r (by omega) (by rw [Nat.sub_self, show tkN cs 0 = [] from rfl, List.append_nil]; exact h)
  rw [Nat.sub_self, show tkN cs 0 = [] from rfl, List.append_nil] at e2
  obtain ⟨r', a1, a2⟩ := e2
  refine ⟨r', ?_, a2⟩
  rw [← a1, ← e]
  rfl
theorem m_pt1 (fu n : Nat) (hn : n < 1000) {r : Nat → Int32} {l : List Nat} (h : RW r l) (hl : l.length < 495) (q : Nat) (hq : 2 ≤ q) : ∃ r', J_X8_saysPart_b24 fu q r (nI l.length) (nI n) (nI 1) = some (r', nI (l ++ [48 + n % 10]).length) ∧ RW r' (l ++ [48 + n % 10]) := by
  obtain ⟨f, rfl⟩ : ∃ f, q = f + 2 := ⟨q - 2, by omega⟩
  obtain ⟨r', a1, a2⟩ := m_says h (48 + n % 10) (by omega) (by omega)
  refine ⟨r', ?_, a2⟩
  rw [J_X8_saysPart_b24, if_neg (by decide), if_neg (by decide), nq_div _ _ (by omega) (by omega), l_10, l_48, nq_div _ _ (by omega) (by omega), nq_mul, nq_sub _ _ (by omega), nq_add, show n / 1 - n / 1 / 10 * 10 = n % 10 by omega, a1]
  simp only [Option.bind_some]
  rw [J_X8_saysPart_b24, if_pos (by decide)]
theorem m_pt10 (fu n : Nat) (hn : n < 1000) {r : Nat → Int32} {l : List Nat} (h : RW r l) (hl : l.length < 490) (q : Nat) (hq : 3 ≤ q) : ∃ r', J_X8_saysPart_b24 fu q r (nI l.length) (nI n) (nI 10) = some (r', nI (l ++ ([48 + n / 10 % 10] ++ [48 + n % 10])).length) ∧ RW r' (l ++ ([48 + n / 10 % 10] ++ [48 + n % 10])) := by
  obtain ⟨f, rfl⟩ : ∃ f, q = f + 3 := ⟨q - 3, by omega⟩
  obtain ⟨r1, a1, a2⟩ := m_says h (48 + n / 10 % 10) (by omega) (by omega)
  obtain ⟨r', b1, b2⟩ := m_pt1 fu n hn a2 (by rw [len1]; omega) (f + 2) (by omega)
  rw [List.append_assoc] at b1 b2
  refine ⟨r', ?_, b2⟩
  rw [J_X8_saysPart_b24, if_neg (by decide), if_neg (by decide), nq_div _ _ (by omega) (by omega), l_10, l_48, nq_div _ _ (by omega) (by omega), nq_mul, nq_sub _ _ (by omega), nq_add, show n / 10 - n / 10 / 10 * 10 = n / 10 % 10 by omega, a1]
  simp only [Option.bind_some]
  rw [nq_div _ _ (by omega) (by omega)]
  exact b1
theorem m_pt100 (fu n : Nat) (hn : n < 1000) {r : Nat → Int32} {l : List Nat} (h : RW r l) (hl : l.length < 400) (q : Nat) (hq : 4 ≤ q) : ∃ r', J_X8_saysPart_b24 fu q r (nI l.length) (nI n) (nI 100) = some (r', nI (l ++ ([48 + n / 100] ++ ([48 + n / 10 % 10] ++ [48 + n % 10]))).length) ∧ RW r' (l ++ ([48 + n / 100] ++ ([48 + n / 10 % 10] ++ [48 + n % 10]))) := by
  obtain ⟨f, rfl⟩ : ∃ f, q = f + 4 := ⟨q - 4, by omega⟩
  obtain ⟨r1, a1, a2⟩ := m_says h (48 + n / 100) (by omega) (by omega)
  obtain ⟨r', b1, b2⟩ := m_pt10 fu n hn a2 (by rw [len1]; omega) (f + 3) (by omega)
  rw [List.append_assoc] at b1 b2
  refine ⟨r', ?_, b2⟩
  rw [J_X8_saysPart_b24, if_neg (by decide), if_neg (by decide), nq_div _ _ (by omega) (by omega), l_10, l_48, nq_div _ _ (by omega) (by omega), nq_mul, nq_sub _ _ (by omega), nq_add, show n / 100 - n / 100 / 10 * 10 = n / 100 by omega, a1]
  simp only [Option.bind_some]
  rw [nq_div _ _ (by omega) (by omega)]
  exact b1
theorem m_pb2 (fu : Nat) (hf : 20 ≤ fu) (n : Nat) (hn : n < 1000) {r : Nat → Int32} {l : List Nat} (h : RW r l) (hl : l.length < 300) (q : Nat) (hq : 3 ≤ q) : ∃ r', J_X8_saysPart_b2 fu q r (nI l.length) (nI n) (nI 1) = some (r', nI (l ++ ([32] ++ digs n)).length) ∧ RW r' (l ++ ([32] ++ digs n)) := by
  obtain ⟨f, rfl⟩ : ∃ f, q = f + 3 := ⟨q - 3, by omega⟩
  obtain ⟨r1, a1, a2⟩ := m_says h 32 (by omega) (by omega)
  have h1 : (l ++ [32]).length < 310 := by rw [len1]; omega
  unfold digs
  rw [J_X8_saysPart_b2, if_neg (by decide), nq_div _ _ (by omega) (by omega), l_9, l_32]
  by_cases c1 : n < 10
  · rw [if_pos (by rw [nq_le _ _ (by omega) (by omega)]; omega), a1, if_pos (show n < 100 by omega), if_pos c1, List.nil_append, List.nil_append]
    obtain ⟨r', b1, b2⟩ := m_pt1 fu n hn a2 (by omega) fu (by omega)
    rw [List.append_assoc] at b1 b2
    exact ⟨r', b1, b2⟩
  · rw [if_neg (by rw [nq_le _ _ (by omega) (by omega)]; omega), l_10, nq_mul, J_X8_saysPart_b2, if_neg (by decide), nq_div _ _ (by omega) (by omega), l_9, l_32]
    by_cases c2 : n < 100
    · rw [if_pos (by rw [nq_le _ _ (by omega) (by omega)]; omega), a1, if_pos c2, if_neg c1, List.nil_append]
      obtain ⟨r', b1, b2⟩ := m_pt10 fu n hn a2 (by omega) fu (by omega)
      rw [List.append_assoc] at b1 b2
      exact ⟨r', b1, b2⟩
    · rw [if_neg (by rw [nq_le _ _ (by omega) (by omega)]; omega), l_10, nq_mul, J_X8_saysPart_b2, if_neg (by decide), nq_div _ _ (by omega) (by omega), l_9, l_32]
      rw [if_pos (by rw [nq_le _ _ (by omega) (by omega)]; omega), a1, if_neg c2, if_neg c1]
      obtain ⟨r', b1, b2⟩ := m_pt100 fu n hn a2 (by omega) fu (by omega)
      rw [List.append_assoc] at b1 b2
      exact ⟨r', b1, b2⟩
theorem m_part (fu : Nat) (hf : 20000 ≤ fu) (n : Nat) (hn : n < 1000) {r : Nat → Int32} {l : List Nat} (h : RW r l) (hl : l.length < 300) : ∃ r', J_X8_saysPart fu r (nI l.length) (nI n) = some (r', nI (l ++ ([32] ++ digs n)).length) ∧ RW r' (l ++ ([32] ++ digs n)) :=
  m_pb2 fu (by omega) n hn h hl fu (by omega)
theorem w_lzw (fu : Nat) (hf : 20000 ≤ fu) {r : Nat → Int32} {l : List Nat} (h : RW r l) (hl : l.length ≤ 450) : ∃ r', J_X8_saysWord fu r (nI l.length) (13143 : Int64) = some (r', nI (l ++ tx 3).length) ∧ RW r' (l ++ tx 3) :=
  m_word fu hf 13143 2 (tx 3) (by omega) (by decide +kernel) (by decide +kernel) (by decide +kernel) (by decide +kernel) h (by omega)
theorem w_sym (fu : Nat) (hf : 20000 ≤ fu) {r : Nat → Int32} {l : List Nat} (h : RW r l) (hl : l.length ≤ 450) : ∃ r', J_X8_saysWord fu r (nI l.length) (21253668243 : Int64) = some (r', nI (l ++ tx 4).length) ∧ RW r' (l ++ tx 4) :=
  m_word fu hf 21253668243 6 (tx 4) (by omega) (by decide +kernel) (by decide +kernel) (by decide +kernel) (by decide +kernel) h (by omega)
theorem w_pol (fu : Nat) (hf : 20000 ≤ fu) (g : Nat → Nat) (h2 : g 2 ≤ 2) {r : Nat → Int32} {l : List Nat} (h : RW r l) (hl : l.length ≤ 450) : ∃ K r', J_X8_policyKey (nW g) = some K ∧ J_X8_saysWord fu r (nI l.length) K = some (r', nI (l ++ tx (g 2)).length) ∧ RW r' (l ++ tx (g 2)) := by
  unfold J_X8_policyKey
  rw [l_2, rd_W 1726 g 2 (by omega) (by omega)]
  have : g 2 = 0 ∨ g 2 = 1 ∨ g 2 = 2 := by omega
  rcases this with c | c | c <;> rw [c]
  · obtain ⟨r', a, b⟩ := m_word fu hf 220370757 5 (tx 0) (by omega) (by decide +kernel) (by decide +kernel) (by decide +kernel) (by decide +kernel) h (by omega)
    exact ⟨_, r', rfl, a, b⟩
  · obtain ⟨r', a, b⟩ := m_word fu hf 19057844 4 (tx 1) (by omega) (by decide +kernel) (by decide +kernel) (by decide +kernel) (by decide +kernel) h (by omega)
    exact ⟨_, r', rfl, a, b⟩
  · obtain ⟨r', a, b⟩ := m_word fu hf 24170600 4 (tx 2) (by omega) (by decide +kernel) (by decide +kernel) (by decide +kernel) (by decide +kernel) h (by omega)
    exact ⟨_, r', rfl, a, b⟩
theorem m_wsy_b (fu : Nat) {g : Nat → Nat} (h6 : g 6 ≤ 400) (hz : g 0 ≤ 26) (hsy : ∀ i, i < g 6 → g (526 + i) < g 0) (l : List Nat) (hl : l.length ≤ 60) : ∀ n k r, k ≤ g 6 → g 6 < n + k → RW r (l ++ syA g k) →
    ∃ r', J_X8_writesSymbols_b15 fu (nW g) n r (nI (l ++ syA g k).length) (nI k) = some (r', nI (l ++ (syA g (g 6) ++ [59])).length) ∧ RW r' (l ++ (syA g (g 6) ++ [59])) := by
  intro n
  induction n with
  | zero => intro k r h1 h2; omega
  | succ n ih =>
    intro k r h1 h2 hr
    unfold J_X8_writesSymbols_b15
    rw [l_6, rd_W 1726 g 6 (by omega) (by omega)]
    simp only [Option.bind_some]
    try simp (disch := first | omega | assumption) only [nq_le, nq_lt, nq_eq]
    by_cases c : k = g 6
    · subst c
      obtain ⟨r1, a1, a2⟩ := m_says hr 59 (by omega) (by rw [List.length_append, syA_len]; omega)
      rw [List.append_assoc] at a1 a2
      refine ⟨r1, ?_, a2⟩
      rw [if_pos (Nat.le_refl _), l_59, a1]
      rfl
    · have hs := hsy k (by omega)
      obtain ⟨r1, a1, a2⟩ := m_says hr (97 + g (526 + k)) (by omega) (by rw [List.length_append, syA_len]; omega)
      rw [List.append_assoc, ← syA_s] at a1 a2
      obtain ⟨r2, b1, b2⟩ := ih (k + 1) r1 (by omega) (by omega) a2
      refine ⟨r2, ?_, b2⟩
      rw [if_neg (by omega), l_526, nq_add, rd_W 1726 g (526 + k) (by omega) (by omega)]
      simp only [Option.bind_some, l_97, nq_add]
      rw [a1]
      simp only [Option.bind_some, l_1, nq_add]
      exact b1
theorem m_writesSetup (fu : Nat) (hf : 20000 ≤ fu) {g : Nat → Nat} (hg : GOOD g) (r0 : Nat → Int32) (x : Int32) : ∃ r', J_X8_writesSetup fu (nW g) r0 x = some (r', nI (SUT g).length) ∧ RW r' (SUT g) := by
  have hs := SET_of hg.1
  unfold SET at hs
  obtain ⟨w, h5b, h50, h6, h7, hcov, hsy⟩ := (WB_iff g).mp hg.1
  have z3 : (tx 3).length = 3 := rfl
  have z4 : (tx 4).length = 7 := rfl
  have zp := tx_l (g 2) (by omega)
  have d0 : (digs (g 0)).length ≤ 2 := by rw [digs_len, if_pos (by omega)]; split <;> omega
  have d1 : (digs (g 1)).length = 1 := by rw [digs_len, if_pos (by omega), if_pos (by omega)]
  have d3 : (digs (g 3)).length ≤ 3 := by rw [digs_len]; split <;> split <;> omega
  have q1 : ∀ c : Nat, [c].length = 1 := fun _ => rfl
  obtain ⟨r1, a1, b1⟩ := w_lzw fu hf (r := r0) (l := []) (fun i hi => absurd hi (Nat.not_lt_zero _)) (by decide)
  rw [List.nil_append] at a1 b1
  obtain ⟨r2, a2, b2⟩ := m_part fu hf (g 0) (by omega) b1 (by omega)
  obtain ⟨r3, a3, b3⟩ := m_part fu hf (g 1) (by omega) b2 (by simp only [List.length_append, q1]; omega)
  obtain ⟨r4, a4, b4⟩ := m_says b3 32 (by omega) (by simp only [List.length_append, q1]; omega)
  obtain ⟨K, r5, ak, a5, b5⟩ := w_pol fu hf g (by omega) b4 (by simp only [List.length_append, q1]; omega)
  obtain ⟨r6, a6, b6⟩ := m_part fu hf (g 3) (by omega) b5 (by simp only [List.length_append, q1]; omega)
  obtain ⟨r7, a7, b7⟩ := m_says b6 59 (by omega) (by simp only [List.length_append, q1]; omega)
  have hset : J_X8_writesSettings fu (nW g) r0 (0 : Int32) = some (r7, nI (tx 3 ++ ([32] ++ digs (g 0)) ++ ([32] ++ digs (g 1)) ++ [32] ++ tx (g 2) ++ ([32] ++ digs (g 3)) ++ [59]).length) := by
    unfold J_X8_writesSettings
    rw [show J_X8_saysWord fu r0 (0 : Int32) (13143 : Int64) = _ from a1]
    simp only [Option.bind_some, l_0, l_1, l_3, l_32, l_59, rd_W 1726 g 0 (by omega) (by omega), rd_W 1726 g 1 (by omega) (by omega), rd_W 1726 g 3 (by omega) (by omega)]
    rw [a2]
    simp only [Option.bind_some]
    rw [a3]
    simp only [Option.bind_some]
    rw [a4]
    simp only [Option.bind_some, ak]
    rw [a5]
    simp only [Option.bind_some]
    rw [a6]
    simp only [Option.bind_some]
    rw [a7]
    rfl
  have e5 : tx 5 = tx 3 ++ [32] := rfl
  have e6 : tx 6 = [32] := rfl
  have e7 : tx 7 = [59] := rfl
  have e8 : tx 8 = tx 4 ++ [32] := rfl
  unfold J_X8_writesSetup SUT
  rw [hset, l_6, rd_W 1726 g 6 (by omega) (by omega)]
  simp only [Option.bind_some]
  rw [l_0]
  try simp (disch := first | omega | assumption) only [nq_le, nq_lt, nq_eq]
  rw [e5, e6, e7, e8]
  by_cases c : g 6 = 0
  · rw [if_pos (by omega), if_pos c]
    refine ⟨r7, ?_, ?_⟩
    · simp only [List.append_assoc, List.append_nil]
    · simp only [List.append_assoc, List.append_nil] at b7 ⊢
      exact b7
  · rw [if_neg (by omega), if_neg c]
    obtain ⟨r8, a8, b8⟩ := w_sym fu hf b7 (by simp only [List.length_append, q1]; omega)
    obtain ⟨r9, a9, b9⟩ := m_says b8 32 (by omega) (by simp only [List.length_append, q1]; omega)
    obtain ⟨r10, a10, b10⟩ := m_wsy_b fu (g := g) h6 (by omega) hsy _ (by simp only [List.length_append, q1]; omega) fu 0 r9 (by omega) (by omega) (RW_nil g b9)
    rw [show syA g 0 = [] from rfl, List.append_nil] at a10
    refine ⟨r10, ?_, ?_⟩
    · unfold J_X8_writesSymbols
      rw [a8]
      simp only [Option.bind_some, l_32]
      rw [a9]
      simp only [Option.bind_some, l_0]
      rw [a10]
      simp only [Option.bind_some, List.append_assoc]
    · simp only [List.append_assoc] at b10 ⊢
      exact b10
theorem t_setupLength (fu : Nat) (hf : 20000 ≤ fu) (t : Int32) {ee : ES} {g : Nat → Nat} (h : RE ee g) (hg : GOOD g) (w : SS) (r0 : Nat → Int32) (x : Int32) :
    ∃ v w' r', J_X7_setupLength fu ee w = some (v, w') ∧ J_X8_setupLength fu t (nW g) r0 x = some (v, nI 0, r', v) := by
  obtain ⟨w', a, ⟨r, rfl, hr⟩, hl⟩ := k_describe fu hf h hg w
  obtain ⟨r', b, hr'⟩ := m_writesSetup fu hf hg r0 x
  refine ⟨nI (SUT g).length, mkS r (nI (SUT g).length), r', ?_, ?_⟩
  · unfold J_X7_setupLength
    rw [a]
    rfl
  · unfold J_X8_setupLength
    rw [b]
    rfl
theorem t_setupByte (fu : Nat) (hf : 20000 ≤ fu) (t : Int32) {ee : ES} {g : Nat → Nat} (h : RE ee g) (hg : GOOD g) (w : SS) (r0 : Nat → Int32) (x y : Int32) :
    (∃ v w' r' x', J_X7_setupByte fu ee w y = some (.inl v, w') ∧ J_X8_setupByte fu t (nW g) r0 x y = some (v, nI 0, r', x')) ∨
    (∃ w' r' x', J_X7_setupByte fu ee w y = some (.inr "java/lang/IndexOutOfBoundsException", w') ∧ J_X8_setupByte fu t (nW g) r0 x y = some (nI 0, nI 1, r', x')) := by
  obtain ⟨w', a, ⟨r, rfl, hr⟩, hl⟩ := k_describe fu hf h hg w
  obtain ⟨r', b, hr'⟩ := m_writesSetup fu hf hg r0 x
  unfold J_X7_setupByte J_X8_setupByte
  rw [a, b]
  simp only [Option.bind_some, l_0, l_1]
  rcases ix_cases y (SUT g).length (by omega) with ⟨p, hp, rfl, c, d⟩ | ⟨c, d⟩
  · rw [c, d]
    refine .inl ⟨nI ((SUT g).getD p 0), mkS r (nI (SUT g).length), r', nI (SUT g).length, ?_, ?_⟩
    · simp only [Option.bind_some, tr_l]
      show ((J_X7_at 429 r (nI p)).bind fun z5 => some (Sum.inl z5, mkS r (nI (SUT g).length))) = _
      rw [at_F 429 r p (by omega) (by omega), hr p hp]
      rfl
    · simp only [Option.bind_some]
      show ((j_rd 500 r' (nI p)).bind fun z6 => (J_X8_told t z6).bind fun z10 => some (z10.1, z10.2, r', nI (SUT g).length)) = _
      rw [rd_F 500 r' p (by omega) (by omega), hr' p hp]
      rfl
  · rw [c, d]
    exact .inr ⟨mkS r (nI (SUT g).length), r', nI (SUT g).length, rfl, rfl⟩
