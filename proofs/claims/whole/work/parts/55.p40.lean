/-! the settings of a setup text, both sides -/
theorem in_tot (a b c : Int32) : ∃ q, q ≤ 1 ∧ J_X8_in a b c = some (nI q) := by
  unfold J_X8_in
  by_cases c1 : a < b
  · rw [if_pos c1]; exact ⟨0, by omega, rfl⟩
  · rw [if_neg c1]
    by_cases c2 : c < a
    · rw [if_pos c2]; exact ⟨0, by omega, rfl⟩
    · rw [if_neg c2]; exact ⟨1, by omega, rfl⟩
theorem numIf_0 (fu : Nat) (v : Nat → Int32) (T er x2 x3 x4 : Int32) (x5 : Int64) (x6 x7 p : Int32) : J_X8_numberIf fu v T er x2 x3 x4 x5 x6 x7 (nI 0) p = some (nI 0, er, x2, x3, x4, x5, x6, x7, nI 0) := rfl
theorem numIf_bad0 (fu : Nat) (v : Nat → Int32) (T er x2 x3 : Int32) (x5 : Int64) (x6 x7 : Int32) : J_X8_numberIf fu v T er x2 x3 (nI 2) x5 x6 x7 (nI 1) (nI 0) = some (nI 0, x3, x2, x3, nI 2, x5, x6, x7, nI 0) := rfl
theorem numIf_badk (fu : Nat) (v : Nat → Int32) (T er x2 x3 : Int32) (k : Nat) (hk : k ≤ 4) (h2 : k ≠ 2) (x5 : Int64) (x6 x7 p : Int32) : J_X8_numberIf fu v T er x2 x3 (nI k) x5 x6 x7 (nI 1) p = some (nI 0, x3, x2, x3, nI k, x5, x6, x7, nI 0) := by
  unfold J_X8_numberIf
  rw [if_neg (show ¬ (nI 1 = 0) by decide), if_neg (by rw [l_2, nq_eq _ _ (by omega) (by omega)]; exact h2)]
  rfl
theorem numIf_ok (fu : Nat) (v : Nat → Int32) (T er x2 x3 : Int32) (x5 : Int64) (x6 x7 a1 a2 a3 : Int32) (a4 : Int64) (a5 a6 : Int32) (h : J_X8_nextToken fu v T x2 x3 (nI 2) x5 x6 x7 = some (a1, a2, a3, a4, a5, a6)) : J_X8_numberIf fu v T er x2 x3 (nI 2) x5 x6 x7 (nI 1) (nI 1) = some (x7, er, a1, a2, a3, a4, a5, a6, nI 1) := by
  unfold J_X8_numberIf J_X8_numberIf_b30
  rw [if_neg (show ¬ (nI 1 = 0) by decide), if_pos (show nI 2 = (2 : Int32) from rfl), if_neg (show ¬ (nI 1 = 0) by decide), show (1 : Int32) = nI 1 from rfl, m_acc_ok fu v _ _ _ _ _ _ _ _ 1 rfl, h]
  simp only [Option.bind_some]
  rw [if_neg (show ¬ (nI 1 = 0) by decide)]
theorem numIn_0 (fu : Nat) (v : Nat → Int32) (T er x2 x3 x4 : Int32) (x5 : Int64) (x6 x7 p q : Int32) : J_X8_numberIn fu v T er x2 x3 x4 x5 x6 x7 (nI 0) p q = some (nI 0, er, x2, x3, x4, x5, x6, x7, nI 0) := by
  obtain ⟨y, _, hy⟩ := in_tot x7 p q
  unfold J_X8_numberIn
  rw [hy]
  simp only [Option.bind_some]
  rw [numIf_0]
  rfl
/-- a number in its range: the class and the model -/
theorem num_st (fu : Nat) (hf : 20000 ≤ fu) {f v : Nat → Int32} {b : Nat → Nat} {T e k s n : Nat} (hT : T ≤ 800) (hf1 : ∀ i, i < T → b i < 256 ∧ f i = nI (b i)) (hv : ∀ i, i < T → b i < 256 ∧ v i = sb (b i)) (h : TK b T e k s n) (word : Int64) (lt nm : Int32) (hm : TKM b k s n word lt nm) (lo hi : Nat) (hlo : lo < 1000) (hhi : hi < 1000) (er : Int32) :
    (∃ N k' s' n' w' l' m', lo ≤ N ∧ N ≤ hi ∧ k = 2 ∧ nm = nI N ∧ s < n ∧ TK b T n k' s' n' ∧ TKM b k' s' n' w' l' m' ∧ J_X6_isNumber fu (mkT (nI T) (nI k) (nI s) (nI n)) (nI lo) (nI hi) 800 f = some (nI 1) ∧ J_X6_number fu (mkT (nI T) (nI k) (nI s) (nI n)) 800 f = some (nI N) ∧
      J_X6_step fu (mkT (nI T) (nI k) (nI s) (nI n)) 800 f = some (mkT (nI T) (nI k') (nI s') (nI n')) ∧
      J_X8_nextToken fu v (nI T) (nI n) (nI s) (nI k) word lt nm = some (nI n', nI s', nI k', w', l', m') ∧
      J_X8_numberIn fu v (nI T) er (nI n) (nI s) (nI k) word lt nm (nI 1) (nI lo) (nI hi) = some (nI N, er, nI n', nI s', nI k', w', l', m', nI 1)) ∨
    (J_X6_isNumber fu (mkT (nI T) (nI k) (nI s) (nI n)) (nI lo) (nI hi) 800 f = some (nI 0) ∧
      J_X8_numberIn fu v (nI T) er (nI n) (nI s) (nI k) word lt nm (nI 1) (nI lo) (nI hi) = some (nI 0, nI s, nI n, nI s, nI k, word, lt, nm, nI 0)) := by
  have hn := TK_n h
  have hk : J_X6_isNumber fu (mkT (nI T) (nI k) (nI s) (nI n)) (nI lo) (nI hi) 800 f = if nI k = (2 : Int32) then ((J_X6_number fu (mkT (nI T) (nI k) (nI s) (nI n)) 800 f).bind fun z2 => if z2 < nI lo then some (0 : Int32) else (J_X6_number fu (mkT (nI T) (nI k) (nI s) (nI n)) 800 f).bind fun z5 => if nI hi < z5 then some (0 : Int32) else some (1 : Int32)) else some (0 : Int32) := rfl
  unfold J_X8_numberIn
  by_cases k2 : k = 2
  · subst k2
    obtain ⟨e1, e2⟩ := k_number6 fu hf hT hf1 h (nI 2)
    have e3 := hm.2 rfl
    obtain ⟨t1, t2, t3, t4, t5⟩ := TK_2 h
    rw [hk, if_pos (show nI 2 = (2 : Int32) from rfl), e1, e3, m_in _ _ _ (by omega) (by omega) (by omega)]
    simp only [Option.bind_some]
    by_cases c1 : lo ≤ nN b s (n - s) ∧ nN b s (n - s) ≤ hi
    · obtain ⟨k', s', n', htk'⟩ := tk_ex b T n hn.2.2.2.1
      obtain ⟨w', l', m', f1, f2⟩ := m_next fu hf hT hv htk' (nI s) (nI 2) word lt (nI (nN b s (n - s)))
      refine .inl ⟨nN b s (n - s), k', s', n', w', l', m', c1.1, c1.2, (by trivial), (by trivial), t2, htk', f2, ?_, rfl, k_step fu hf hT hf1 htk' (nI 2) (nI s), f1, ?_⟩
      · rw [if_neg (by rw [nq_lt _ _ (by omega) (by omega)]; omega), if_neg (by rw [nq_lt _ _ (by omega) (by omega)]; omega)]
        rfl
      · rw [if_pos c1, numIf_ok fu v (nI T) er (nI n) (nI s) word lt (nI (nN b s (n - s))) _ _ _ _ _ _ f1]
        rfl
    · refine .inr ⟨?_, ?_⟩
      · by_cases c2 : nN b s (n - s) < lo
        · rw [if_pos (by rw [nq_lt _ _ (by omega) (by omega)]; omega)]
          rfl
        · rw [if_neg (by rw [nq_lt _ _ (by omega) (by omega)]; omega), if_pos (by rw [nq_lt _ _ (by omega) (by omega)]; omega)]
          rfl
      · rw [if_neg c1, numIf_bad0]
        rfl
  · refine .inr ⟨?_, ?_⟩
    · rw [hk, if_neg (by rw [l_2, nq_eq _ _ (by omega) (by omega)]; exact k2)]
      rfl
    · obtain ⟨y, _, hy⟩ := in_tot nm (nI lo) (nI hi)
      rw [hy]
      simp only [Option.bind_some]
      rw [numIf_badk fu v (nI T) er (nI n) (nI s) k hn.2.2.2.2.1 k2]
      rfl
abbrev MRes : Type := Option (Int32 × (Nat → Int32) × Int32 × Int32 × Int32 × Int64 × Int32 × Int32 × Int32)
def tl4 (fu : Nat) (v : Nat → Int32) (T er : Int32) (W : Nat → Int32) (x2 x3 x4 : Int32) (x5 : Int64) (x6 x7 fine : Int32) : MRes :=
  (J_X8_policyWord x4 x5 fine).bind fun z => if z < 0 then J_X8_readSettings_b69 fu v T er W x2 x3 x4 x5 x6 x7 fine z (0 : Int32) else J_X8_readSettings_b69 fu v T er W x2 x3 x4 x5 x6 x7 fine z (1 : Int32)
def tl3 (fu : Nat) (v : Nat → Int32) (T er : Int32) (W : Nat → Int32) (x2 x3 x4 : Int32) (x5 : Int64) (x6 x7 fine : Int32) : MRes :=
  (J_X8_isWide W x7).bind fun z11 => (J_X8_numberIf fu v T er x2 x3 x4 x5 x6 x7 fine z11).bind fun z13 => (J_X8_more (3 : Int32) z13.1).bind fun z15 => (j_wr 1726 W (1 : Int32) z15).bind fun g17 => tl4 fu v T z13.2.1 g17 z13.2.2.1 z13.2.2.2.1 z13.2.2.2.2.1 z13.2.2.2.2.2.1 z13.2.2.2.2.2.2.1 z13.2.2.2.2.2.2.2.1 z13.2.2.2.2.2.2.2.2
def tl2 (fu : Nat) (v : Nat → Int32) (T er : Int32) (W : Nat → Int32) (x2 x3 x4 : Int32) (x5 : Int64) (x6 x7 fine : Int32) : MRes :=
  (J_X8_numberIn fu v T er x2 x3 x4 x5 x6 x7 fine (2 : Int32) (26 : Int32)).bind fun z5 => (J_X8_more (2 : Int32) z5.1).bind fun z7 => (j_wr 1726 W (0 : Int32) z7).bind fun g9 => tl3 fu v T z5.2.1 g9 z5.2.2.1 z5.2.2.2.1 z5.2.2.2.2.1 z5.2.2.2.2.2.1 z5.2.2.2.2.2.2.1 z5.2.2.2.2.2.2.2.1 z5.2.2.2.2.2.2.2.2
theorem rs_eq (fu : Nat) (v : Nat → Int32) (T er : Int32) (W : Nat → Int32) (x2 x3 x4 : Int32) (x5 : Int64) (x6 x7 fine : Int32) : J_X8_readSettings fu v T er W x2 x3 x4 x5 x6 x7 fine =
    (J_X8_isKey x4 x5 fine (13143 : Int64)).bind fun z1 => (J_X8_accepts fu v T er x2 x3 x4 x5 x6 x7 fine z1).bind fun z3 => tl2 fu v T z3.1 W z3.2.1 z3.2.2.1 z3.2.2.2.1 z3.2.2.2.2.1 z3.2.2.2.2.2.1 z3.2.2.2.2.2.2.1 z3.2.2.2.2.2.2.2 := rfl
theorem b69_0 (fu : Nat) (v : Nat → Int32) (T er : Int32) (g : Nat → Nat) (x2 x3 x4 : Int32) (x5 : Int64) (x6 x7 : Int32) (y : Nat) (p : Int32) : J_X8_readSettings_b69 fu v T er (nW g) x2 x3 x4 x5 x6 x7 (nI 0) (nI y) p = some (er, nW (nS (nS g 2 y) 3 0), x2, x3, x4, x5, x6, x7, nI 0) := by
  unfold J_X8_readSettings_b69
  rw [m_acc_0, l_2, wr_W 1726 g 2 y (by omega) (by omega)]
  simp only [Option.bind_some]
  rw [numIn_0]
  simp only [Option.bind_some]
  rw [l_3, wr_W 1726 _ 3 0 (by omega) (by omega)]
  simp only [Option.bind_some]
  rw [m_mark_0]
  rfl
theorem tl4_0 (fu : Nat) (v : Nat → Int32) (T er : Int32) (g : Nat → Nat) (x2 x3 x4 : Int32) (x5 : Int64) (x6 x7 : Int32) : ∃ g', tl4 fu v T er (nW g) x2 x3 x4 x5 x6 x7 (nI 0) = some (er, nW g', x2, x3, x4, x5, x6, x7, nI 0) := by
  have e : J_X8_policyWord x4 x5 (nI 0) = some (-1 : Int32) := rfl
  unfold tl4
  rw [e, neg1]
  simp only [Option.bind_some]
  rw [if_pos (by decide)]
  exact ⟨_, b69_0 fu v T er g x2 x3 x4 x5 x6 x7 4294967295 0⟩
theorem wide_tot (g : Nat → Nat) (x : Int32) : ∃ q, J_X8_isWide (nW g) x = some q := by
  obtain ⟨y, _, hy⟩ := in_tot x (3 : Int32) (8 : Int32)
  unfold J_X8_isWide
  rw [hy]
  simp only [Option.bind_some]
  by_cases c : nI y = (0 : Int32)
  · rw [if_pos c]; exact ⟨_, rfl⟩
  · rw [if_neg c, l_0, rd_W 1726 g 0 (by omega) (by omega)]
    simp only [Option.bind_some]
    by_cases d : (1 : Int32) <<< (x &&& 31) < nI (g 0) + (2 : Int32)
    · rw [if_pos d]; exact ⟨_, rfl⟩
    · rw [if_neg d]; exact ⟨_, rfl⟩
theorem more_W (a b : Nat) (ha : a < 2147483648) (hb : b < 2147483648) : J_X8_more (nI a) (nI b) = some (nI (if a ≤ b then b else a)) := by
  unfold J_X8_more
  by_cases c : a ≤ b
  · rw [if_pos (by rw [nq_le _ _ ha hb]; exact c), if_pos c]
  · rw [if_neg (by rw [nq_le _ _ ha hb]; exact c), if_neg c]
theorem tl3_0 (fu : Nat) (v : Nat → Int32) (T er : Int32) (g : Nat → Nat) (x2 x3 x4 : Int32) (x5 : Int64) (x6 x7 : Int32) : ∃ g', tl3 fu v T er (nW g) x2 x3 x4 x5 x6 x7 (nI 0) = some (er, nW g', x2, x3, x4, x5, x6, x7, nI 0) := by
  obtain ⟨q, hq⟩ := wide_tot g x7
  unfold tl3
  rw [hq]
  simp only [Option.bind_some]
  rw [numIf_0]
  simp only [Option.bind_some]
  rw [l_3, more_W 3 0 (by omega) (by omega)]
  simp only [Option.bind_some]
  rw [l_1, wr_W 1726 g 1 _ (by omega) (by omega)]
  exact tl4_0 fu v T er _ x2 x3 x4 x5 x6 x7
theorem tl2_0 (fu : Nat) (v : Nat → Int32) (T er : Int32) (g : Nat → Nat) (x2 x3 x4 : Int32) (x5 : Int64) (x6 x7 : Int32) : ∃ g', tl2 fu v T er (nW g) x2 x3 x4 x5 x6 x7 (nI 0) = some (er, nW g', x2, x3, x4, x5, x6, x7, nI 0) := by
  unfold tl2
  rw [numIn_0]
  simp only [Option.bind_some]
  rw [l_2, more_W 2 0 (by omega) (by omega)]
  simp only [Option.bind_some]
  rw [l_0, wr_W 1726 g 0 _ (by omega) (by omega)]
  exact tl3_0 fu v T er _ x2 x3 x4 x5 x6 x7
theorem set_b (fu : Nat) (hf : 20000 ≤ fu) {f v : Nat → Int32} {b : Nat → Nat} {T k s n : Nat} (hT : T ≤ 800) (hf1 : ∀ i, i < T → b i < 256 ∧ f i = nI (b i)) (hv : ∀ i, i < T → b i < 256 ∧ v i = sb (b i)) (h : TK b T 0 k s n) (word : Int64) (lt nm : Int32) (hm : TKM b k s n word lt nm) (er : Int32) (g : Nat → Nat) (r : RS) :
    (∃ (r' : RS) (t' : TS) (p : Nat) (g' : Nat → Nat) (x2 x3 x4 : Int32) (x5 : Int64) (x6 x7 : Int32), J_X4_readSetup fu r (mkT (nI T) (nI 0) (nI 0) (nI 0)) 800 f = some (nI 0, r', t') ∧ t_start t' = nI p ∧ J_X8_readSettings fu v (nI T) er (nW g) (nI n) (nI s) (nI k) word lt nm (nI 1) = some (nI p, nW g', x2, x3, x4, x5, x6, x7, nI 0)) ∨
    (∃ (z wd po li s6 n6 k7 s7 n7 : Nat) (w7 : Int64) (l7 m7 : Int32), (2 ≤ z ∧ z ≤ 26 ∧ 3 ≤ wd ∧ wd ≤ 8 ∧ z + 2 ≤ 2 ^ wd ∧ po ≤ 2 ∧ 1 ≤ li ∧ li ≤ 200) ∧ n6 ≤ T ∧ TK b T n6 k7 s7 n7 ∧ TKM b k7 s7 n7 w7 l7 m7 ∧
      J_X4_readSetup fu r (mkT (nI T) (nI 0) (nI 0) (nI 0)) 800 f = ((J_X4_readStatements fu (mkR (nI z) (nI wd) (nI po) (nI li) (r_symbols r) (nI 0)) (mkT (nI T) (nI 3) (nI s6) (nI n6)) 800 f).bind fun z7 => if z7.1 = 0 then some ((0 : Int32), z7.2.1, z7.2.2) else some ((1 : Int32), z7.2.1, z7.2.2)) ∧
      J_X8_readSettings fu v (nI T) er (nW g) (nI n) (nI s) (nI k) word lt nm (nI 1) = some (er, nW (nS (nS (nS (nS g 0 z) 1 wd) 2 po) 3 li), nI n7, nI s7, nI k7, w7, l7, m7, nI 1)) := by
  have hn := TK_n h
  have u1 := k_isWord fu hf hT hf1 h 3 (by omega)
  have u2 := m_isKey h word lt nm hm 3 (by omega) (13143 : Int64) (by decide +kernel)
  rw [rs_eq]
  unfold J_X4_readSetup J_X4_readSizes
  rw [k_step fu hf hT hf1 h (nI 0) (nI 0)]
  simp only [Option.bind_some]
  by_cases cw : k = 1 ∧ isW b s n (tx 3)
  · rw [u1.1 cw, u2.1 cw]
    simp only [Option.bind_some]
    obtain ⟨k2, s2, n2, htk2⟩ := tk_ex b T n hn.2.2.2.1
    have hn2 := TK_n htk2
    obtain ⟨w2, l2, nm2, f1, f2⟩ := m_next fu hf hT hv htk2 (nI s) (nI k) word lt nm
    rw [if_neg (show ¬ (nI 1 = 0) by decide), m_acc_ok fu v _ _ _ _ _ _ _ _ 1 rfl, k_step fu hf hT hf1 htk2 (nI k) (nI s), f1]
    simp only [Option.bind_some]
    unfold tl2
    rw [show (2 : Int32) = nI 2 from rfl, show (26 : Int32) = nI 26 from rfl]
    rcases num_st fu hf hT hf1 hv htk2 w2 l2 nm2 f2 2 26 (by omega) (by omega) er with ⟨z, k3, s3, n3, w3, l3, nm3, z1, z2, z3, z4, z5, htk3, z6, z7, z8, z9, _, z10⟩ | ⟨z7, z10⟩
    · have hn3 := TK_n htk3
      rw [z7, z10]
      simp only [Option.bind_some]
      rw [if_neg (show ¬ (nI 1 = 0) by decide), z8]
      simp only [Option.bind_some]
      rw [z9, more_W 2 z (by omega) (by omega), if_pos z1]
      simp only [Option.bind_some]
      rw [show j_wr 1726 (nW g) (0 : Int32) (nI z) = some (nW (nS g 0 z)) from wr_W 1726 g 0 z (by omega) (by omega)]
      simp only [Option.bind_some]
      unfold tl3
      rw [show (3 : Int32) = nI 3 from rfl, show (8 : Int32) = nI 8 from rfl]
      -- the width
      have hbad : ∀ r' : RS, J_X8_isWide (nW (nS g 0 z)) nm3 = some (nI 0) ∨ k3 ≠ 2 → ∃ (p : Nat) (g' : Nat → Nat) (x2 x3 x4 : Int32) (x5 : Int64) (x6 x7 : Int32), p = s3 ∧ ((J_X8_isWide (nW (nS g 0 z)) nm3).bind fun z11 => (J_X8_numberIf fu v (nI T) er (nI n3) (nI s3) (nI k3) w3 l3 nm3 (nI 1) z11).bind fun z13 => (J_X8_more (nI 3) z13.1).bind fun z15 => (j_wr 1726 (nW (nS g 0 z)) (1 : Int32) z15).bind fun g17 => tl4 fu v (nI T) z13.2.1 g17 z13.2.2.1 z13.2.2.2.1 z13.2.2.2.2.1 z13.2.2.2.2.2.1 z13.2.2.2.2.2.2.1 z13.2.2.2.2.2.2.2.1 z13.2.2.2.2.2.2.2.2) = some (nI p, nW g', x2, x3, x4, x5, x6, x7, nI 0) := by
        intro r' hw
        obtain ⟨y, hy⟩ := wide_tot (nS g 0 z) nm3
        have hni : J_X8_numberIf fu v (nI T) er (nI n3) (nI s3) (nI k3) w3 l3 nm3 (nI 1) y = some (nI 0, nI s3, nI n3, nI s3, nI k3, w3, l3, nm3, nI 0) := by
          by_cases q : k3 = 2
          · subst q
            rcases hw with hw | hw
            · rw [hy] at hw
              rw [Option.some.inj hw]
              exact numIf_bad0 fu v (nI T) er (nI n3) (nI s3) w3 l3 nm3
            · exact absurd rfl hw
          · exact numIf_badk fu v (nI T) er (nI n3) (nI s3) k3 hn3.2.2.2.2.1 q w3 l3 nm3 y
        obtain ⟨g', hg'⟩ := tl4_0 fu v (nI T) (nI s3) (nS (nS g 0 z) 1 3) (nI n3) (nI s3) (nI k3) w3 l3 nm3
        refine ⟨s3, g', nI n3, nI s3, nI k3, w3, l3, nm3, rfl, ?_⟩
        rw [hy]
        simp only [Option.bind_some]
        rw [hni]
        simp only [Option.bind_some]
        rw [more_W 3 0 (by omega) (by omega)]
        simp only [Option.bind_some]
        rw [l_1, wr_W 1726 _ 1 _ (by omega) (by omega)]
        exact hg'
      rcases num_st fu hf hT hf1 hv htk3 w3 l3 nm3 z6 3 8 (by omega) (by omega) er with ⟨wd, k4, s4, n4, w4, l4, nm4, y1, y2, y3, y4, y5, htk4, y6, y7, y8, y9, y11, y10⟩ | ⟨y7, y10⟩
      · have hn4 := TK_n htk4
        rw [y7]
        simp only [Option.bind_some]
        rw [if_neg (show ¬ (nI 1 = 0) by decide), y8]
        simp only [Option.bind_some]
        have hwide : J_X8_isWide (nW (nS g 0 z)) nm3 = if (1 : Int32) <<< (nI wd &&& 31) < nI z + (2 : Int32) then some (0 : Int32) else some (1 : Int32) := by
          unfold J_X8_isWide
          rw [y4, show (3 : Int32) = nI 3 from rfl, show (8 : Int32) = nI 8 from rfl, m_in wd 3 8 (by omega) (by omega) (by omega), if_pos ⟨y1, y2⟩]
          simp only [Option.bind_some]
          rw [if_neg (show ¬ (nI 1 = 0) by decide), l_0, rd_W 1726 _ 0 (by omega) (by omega), nS_eq]
          rfl
        have hpw : (1 : Int32) <<< (nI wd &&& 31) = nI (2 ^ wd) := nq_pow wd (by omega)
        have hpl := pow_le8 wd y2
        rw [hpw] at hwide ⊢
        by_cases cwd : z + 2 ≤ 2 ^ wd
        · have cw' : ¬ (nI (2 ^ wd) < nI z + (2 : Int32)) := by rw [l_2, nq_add, nq_lt _ _ (by omega) (by omega)]; omega
          rw [if_neg cw'] at hwide
          rw [if_neg (show ¬ (nI (2 ^ wd) < nI z + nI 2) from cw'), hwide]
          simp only [Option.bind_some]
          rw [y3, y4] at y11
          rw [y3, y4, show (1 : Int32) = nI 1 from rfl, numIf_ok fu v (nI T) er (nI n3) (nI s3) w3 l3 (nI wd) _ _ _ _ _ _ y11]
          simp only [Option.bind_some]
          rw [more_W 3 wd (by omega) (by omega), if_pos y1]
          simp only [Option.bind_some]
          rw [wr_W 1726 _ 1 wd (by omega) (by omega)]
          simp only [Option.bind_some]
          rw [if_neg (show ¬ (nI 1 = 0) by decide)]
          unfold J_X4_readPolicy tl4
          rw [y3] at y9
          rw [y9]
          simp only [Option.bind_some]
          obtain ⟨po, hpo, p1, p2⟩ := k_pn fu hf hT hf1 htk4 w4 l4 nm4 y6
          rw [p1, p2]
          simp only [Option.bind_some]
          rw [neg1]
          rcases hpo with hpo | hpo
          · subst hpo
            rw [if_pos rfl, if_pos (by decide)]
            simp only [Option.bind_some]
            unfold J_X8_readSettings_b69
            rw [m_acc_bad0]
            simp only [Option.bind_some]
            rw [show (2 : Int32) = nI 2 from rfl, wr_W 1726 _ 2 4294967295 (by omega) (by omega)]
            simp only [Option.bind_some]
            rw [numIn_0]
            simp only [Option.bind_some]
            rw [show (3 : Int32) = nI 3 from rfl, wr_W 1726 _ 3 0 (by omega) (by omega)]
            simp only [Option.bind_some]
            rw [m_mark_0]
            exact .inl ⟨_, _, s4, _, _, _, _, _, _, _, rfl, rfl, rfl⟩
          · rw [if_neg (by rw [nq_eq _ _ (by omega) (by omega)]; omega), if_neg (by rw [l_0, nq_lt _ _ (by omega) (by omega)]; omega)]
            unfold J_X8_readSettings_b69
            obtain ⟨k5, s5, n5, htk5⟩ := tk_ex b T n4 hn4.2.2.2.1
            have hn5 := TK_n htk5
            obtain ⟨w5, l5, nm5, f5, f6⟩ := m_next fu hf hT hv htk5 (nI s4) (nI k4) w4 l4 nm4
            rw [show (1 : Int32) = nI 1 from rfl, m_acc_ok fu v _ _ _ _ _ _ _ _ 1 rfl, k_step fu hf hT hf1 htk5 (nI k4) (nI s4), f5]
            simp only [Option.bind_some]
            rw [show (2 : Int32) = nI 2 from rfl, wr_W 1726 _ 2 po (by omega) (by omega)]
            simp only [Option.bind_some]
            rw [show (200 : Int32) = nI 200 from rfl]
            rcases num_st fu hf hT hf1 hv htk5 w5 l5 nm5 f6 1 200 (by omega) (by omega) er with ⟨li, k6, s6, n6, w6, l6, nm6, v1, v2, v3, v4, v5, htk6, v6, v7, v8, v9, _, v10⟩ | ⟨v7, v10⟩
            · have hn6 := TK_n htk6
              rw [v7, v10]
              simp only [Option.bind_some]
              rw [if_neg (show ¬ (nI 1 = 0) by decide), v8]
              simp only [Option.bind_some]
              rw [v9]
              simp only [Option.bind_some]
              rw [show (3 : Int32) = nI 3 from rfl, wr_W 1726 _ 3 li (by omega) (by omega)]
              simp only [Option.bind_some]
              by_cases k63 : k6 = 3
              · subst k63
                obtain ⟨k7, s7, n7, htk7⟩ := tk_ex b T n6 hn6.2.2.2.1
                obtain ⟨w7, l7, nm7, f7, f8⟩ := m_next fu hf hT hv htk7 (nI s6) (nI 3) w6 l6 nm6
                rw [if_pos rfl, m_mark_3, m_acc_ok fu v _ _ _ _ _ _ _ _ 1 rfl, f7]
                simp only [Option.bind_some]
                rw [if_neg (show ¬ (nI 1 = 0) by decide)]
                exact .inr ⟨z, wd, po, li, s6, n6, k7, s7, n7, w7, l7, nm7, ⟨z1, z2, y1, y2, cwd, hpo, v1, v2⟩, hn6.2.2.2.1, htk7, f8, rfl, rfl⟩
              · rw [if_neg (show ¬ (t_kind (mkT (nI T) (nI k6) (nI s6) (nI n6)) = nI 3) from by
                  show ¬ (nI k6 = nI 3)
                  rw [nq_eq _ _ (by omega) (by omega)]; exact k63), m_mark_n fu v _ _ _ _ k6 hn6.2.2.2.2.1 k63]
                simp only [Option.bind_some]
                exact .inl ⟨_, _, s6, _, _, _, _, _, _, _, rfl, rfl, rfl⟩
            · rw [v7, v10]
              simp only [Option.bind_some]
              rw [if_pos n00, show (3 : Int32) = nI 3 from rfl, wr_W 1726 _ 3 0 (by omega) (by omega)]
              simp only [Option.bind_some]
              rw [m_mark_0]
              exact .inl ⟨_, _, s5, _, _, _, _, _, _, _, rfl, rfl, rfl⟩
        · have cw' : nI (2 ^ wd) < nI z + (2 : Int32) := by rw [l_2, nq_add, nq_lt _ _ (by omega) (by omega)]; omega
          rw [if_pos cw'] at hwide
          obtain ⟨p, g', x2, x3, x4, x5, x6, x7, hp, hx⟩ := hbad r (.inl hwide)
          rw [hx, if_pos (show nI (2 ^ wd) < nI z + nI 2 from cw')]
          exact .inl ⟨_, _, p, g', x2, x3, x4, x5, x6, x7, rfl, by rw [hp], rfl⟩
      · have hb2 : J_X8_isWide (nW (nS g 0 z)) nm3 = some (nI 0) ∨ k3 ≠ 2 := by
          by_cases q : k3 = 2
          · subst q
            refine .inl ?_
            obtain ⟨e1, e2⟩ := k_number6 fu hf hT hf1 htk3 (nI 2)
            have e3 := z6.2 rfl
            have hk : J_X6_isNumber fu (mkT (nI T) (nI 2) (nI s3) (nI n3)) (nI 3) (nI 8) 800 f = ((J_X6_number fu (mkT (nI T) (nI 2) (nI s3) (nI n3)) 800 f).bind fun z2 => if z2 < nI 3 then some (0 : Int32) else (J_X6_number fu (mkT (nI T) (nI 2) (nI s3) (nI n3)) 800 f).bind fun z5 => if nI 8 < z5 then some (0 : Int32) else some (1 : Int32)) := rfl
            rw [hk, e1] at y7
            simp only [Option.bind_some] at y7
            unfold J_X8_isWide
            have hnot : ¬ (3 ≤ nN b s3 (n3 - s3) ∧ nN b s3 (n3 - s3) ≤ 8) := by
              intro hx
              rw [if_neg (by rw [nq_lt _ _ (by omega) (by omega)]; omega), if_neg (by rw [nq_lt _ _ (by omega) (by omega)]; omega)] at y7
              exact absurd (Option.some.inj y7) (by decide)
            rw [e3, show (3 : Int32) = nI 3 from rfl, show (8 : Int32) = nI 8 from rfl, m_in _ 3 8 (by omega) (by omega) (by omega), if_neg hnot]
            rfl
          · exact .inr q
        obtain ⟨p, g', x2, x3, x4, x5, x6, x7, hp, hx⟩ := hbad r hb2
        rw [y7, hx]
        exact .inl ⟨_, _, p, g', x2, x3, x4, x5, x6, x7, rfl, by rw [hp], rfl⟩
    · rw [z7, z10]
      simp only [Option.bind_some]
      obtain ⟨g', hg'⟩ := tl3_0 fu v (nI T) (nI s2) (nS g 0 2) (nI n2) (nI s2) (nI k2) w2 l2 nm2
      rw [if_pos n00, more_W 2 0 (by omega) (by omega)]
      simp only [Option.bind_some]
      rw [l_0, wr_W 1726 g 0 _ (by omega) (by omega)]
      exact .inl ⟨_, _, s2, g', _, _, _, _, _, _, rfl, rfl, hg'⟩
  · rw [u1.2 cw, u2.2 cw]
    simp only [Option.bind_some]
    rw [if_pos n00, m_acc_bad]
    obtain ⟨g', hg'⟩ := tl2_0 fu v (nI T) (nI s) g (nI n) (nI s) (nI k) word lt nm
    exact .inl ⟨_, _, s, g', _, _, _, _, _, _, rfl, rfl, hg'⟩
