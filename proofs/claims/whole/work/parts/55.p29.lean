/-! the written bits, both sides -/
def ofs (g : Nat → Nat) (k : Nat) : Nat := sm (gwd_ g) 0 k
theorem ofs_s (g : Nat → Nat) (k : Nat) : ofs g (k + 1) = ofs g k + gwd_ g k := sm_succ _ _ _ (Nat.zero_le _)
theorem ofs_mono (g : Nat → Nat) (a b : Nat) (h : a ≤ b) : ofs g a ≤ ofs g b := by
  induction b with
  | zero => rw [show a = 0 by omega]; exact Nat.le_refl _
  | succ b ih =>
    rcases Nat.lt_or_ge b a with c | c
    · rw [show a = b + 1 by omega]; exact Nat.le_refl _
    · have := ih c
      rw [ofs_s]; omega
def btS (g : Nat → Nat) : Nat → Nat → Nat
| 0, _ => 0
| n + 1, i => if ofs g n ≤ i ∧ i < ofs g (n + 1) then gcd_ g n / 2 ^ (ofs g (n + 1) - 1 - i) % 2 else btS g n i
theorem btS_le (g : Nat → Nat) (n i : Nat) : btS g n i ≤ 1 := by
  induction n with
  | zero => exact Nat.zero_le _
  | succ n ih =>
    show (if _ then gcd_ g n / 2 ^ (ofs g (n + 1) - 1 - i) % 2 else btS g n i) ≤ 1
    split
    · exact Nat.le_of_lt_succ (Nat.mod_lt _ (by omega))
    · exact ih
theorem btS_hi (g : Nat → Nat) (n i : Nat) (h : ofs g n ≤ i) : btS g n i = 0 := by
  induction n with
  | zero => rfl
  | succ n ih =>
    have := ofs_mono g n (n + 1) (by omega)
    show (if ofs g n ≤ i ∧ i < ofs g (n + 1) then gcd_ g n / 2 ^ (ofs g (n + 1) - 1 - i) % 2 else btS g n i) = 0
    rw [if_neg (by omega)]
    exact ih (by omega)
theorem btS_at (g : Nat → Nat) (k i : Nat) (h1 : ofs g k ≤ i) (h2 : i < ofs g (k + 1)) : ∀ n, k < n → btS g n i = gcd_ g k / 2 ^ (ofs g (k + 1) - 1 - i) % 2 := by
  intro n
  induction n with
  | zero => intro h; omega
  | succ n ih =>
    intro h
    show (if ofs g n ≤ i ∧ i < ofs g (n + 1) then gcd_ g n / 2 ^ (ofs g (n + 1) - 1 - i) % 2 else btS g n i) = _
    by_cases c : n = k
    · subst c
      rw [if_pos ⟨h1, h2⟩]
    · have := ofs_mono g (k + 1) n (by omega)
      rw [if_neg (by omega)]
      exact ih (by omega)
def vM (f : Nat → Nat) (i : Nat) : Nat → Nat
| 0 => 0
| m + 1 => 2 * vM f i m + f (i + m)
theorem vM_lt (f : Nat → Nat) (i : Nat) (h : ∀ j, f j ≤ 1) : ∀ m, vM f i m < 2 ^ m := by
  intro m
  induction m with
  | zero => exact Nat.zero_lt_one
  | succ m ih =>
    have := h (i + m)
    rw [Nat.pow_succ]
    show 2 * vM f i m + f (i + m) < _
    omega
theorem vM_zero (f : Nat → Nat) (i m : Nat) (h : ∀ j, i + m ≤ j → f j = 0) : ∀ d, vM f i (m + d) = vM f i m * 2 ^ d := by
  intro d
  induction d with
  | zero => exact (Nat.mul_one _).symm
  | succ d ih =>
    show 2 * vM f i (m + d) + f (i + (m + d)) = _
    rw [h _ (by omega), ih, Nat.pow_succ, Nat.add_zero, Nat.mul_comm 2, Nat.mul_assoc]
set_option maxRecDepth 100000 in
theorem sh_bit : ∀ c, c < 256 → ∀ s, s < 8 → (nI c >>> (nI s &&& nI 31)) &&& nI 1 = nI (c / 2 ^ s % 2) := by decide +kernel
set_option maxRecDepth 100000 in
theorem sh_bitU : ∀ c, c < 256 → ∀ s, s < 8 → ((((nI c).toUInt32 >>> ((nI s).toUInt32 &&& Int32.toUInt32 (nI 31))).toInt32) &&& nI 1) = nI (c / 2 ^ s % 2) := by decide +kernel
set_option maxRecDepth 100000 in
theorem or_bit : ∀ N, N < 9 → ∀ m, m < N → ∀ v, v < 2 ^ m → ∀ o, o < 2 → nI (v * 2 ^ (N - m)) ||| (nI o <<< (nI (N - 1 - m) &&& nI 31)) = nI ((2 * v + o) * 2 ^ (N - 1 - m)) := by decide +kernel
theorem g_cw {g : Nat → Nat} (hg : GOOD g) : g 7 ≤ 800 ∧ ofs g (g 7) ≤ 6400 ∧ ∀ i, i < g 7 → g (926 + i) < 4096 ∧ gcd_ g i < 256 ∧ 1 ≤ gwd_ g i ∧ gwd_ g i ≤ 8 := by
  obtain ⟨⟨hm, hq, h2, h31, h3, h8, hcw⟩, h5b, h50, h6, h7, hcov, hsy⟩ := (WB_iff g).mp hg.1
  have h1 := sm_le (gwd_ g) 8 0 (g 7) (fun k _ hk => (hcw k hk).2.2)
  have h7' := hm.2.2.2.1
  refine ⟨h7', ?_, fun i hi => ⟨hm.2.2.2.2.1 i hi, (hcw i hi).1, (hcw i hi).2.1, (hcw i hi).2.2⟩⟩
  unfold ofs
  omega
theorem m_bit_b (fu : Nat) {g : Nat → Nat} (hg : GOOD g) (i : Nat) (hi : i < ofs g (g 7)) : ∀ f k, k < g 7 → ofs g k ≤ i → g 7 < f + k →
    J_X8_bit_b4 fu (nW g) f (nI (i - ofs g k)) (nI k) = some (nI (btS g (g 7) i)) := by
  intro f
  obtain ⟨h7, ho, hh⟩ := g_cw hg
  induction f with
  | zero => intro k h1 h2 h3; omega
  | succ f ih =>
    intro k h1 h2 h3
    obtain ⟨a1, a2, a3, a4⟩ := hh k h1
    have e := ofs_s g k
    unfold J_X8_bit_b4
    rw [m_widthAt g k (by omega) a1, m_codeAt g k (by omega) a1]
    simp only [Option.bind_some]
    try simp (disch := first | omega | assumption) only [nq_le, nq_lt, nq_eq]
    by_cases c : i - ofs g k < gwd_ g k
    · rw [if_pos c, btS_at g k i h2 (by omega) (g 7) h1, e, show ofs g k + gwd_ g k - 1 - i = gwd_ g k - 1 - (i - ofs g k) by omega, l_1, nq_sub _ _ a3, nq_sub _ _ (by omega)]
      exact congrArg some (sh_bit _ a2 _ (by omega))
    · rw [if_neg c, nq_sub _ _ (by omega), l_1, nq_add, show i - ofs g k - gwd_ g k = i - ofs g (k + 1) by omega]
      have hk : k + 1 < g 7 := by
        rcases Nat.lt_or_ge (k + 1) (g 7) with d | d
        · exact d
        · rw [show g 7 = k + 1 by omega] at hi; omega
      exact ih (k + 1) hk (by omega) (by omega)
theorem m_bit (fu : Nat) (hf : 20000 ≤ fu) {g : Nat → Nat} (hg : GOOD g) (i : Nat) (hi : i < ofs g (g 7)) : J_X8_bit fu (nW g) (nI i) = some (nI (btS g (g 7) i)) := by
  have h7 := (g_cw hg).1
  have h0 : 0 < g 7 := by
    rcases Nat.eq_zero_or_pos (g 7) with c | c
    · rw [c] at hi; exact absurd hi (Nat.not_lt_zero _)
    · exact c
  exact m_bit_b fu hg i hi fu 0 h0 (Nat.zero_le _) (by omega)
theorem m_by_b (fu : Nat) (hf : 20000 ≤ fu) {g : Nat → Nat} (hg : GOOD g) (t : Int32) (x : Nat) (hx : x < 1000) : ∀ f m, m ≤ 8 → 8 < f + m →
    J_X8_byteAt_b33 fu (nW g) f t (nI x) (nI (ofs g (g 7))) (nI (vM (btS g (g 7)) (8 * x) m)) (nI (8 * x + m)) = some (nI (vM (btS g (g 7)) (8 * x) 8), nI 0) := by
  intro f
  obtain ⟨h7, ho, hh⟩ := g_cw hg
  induction f with
  | zero => intro m h1 h2; omega
  | succ f ih =>
    intro m h1 h2
    have hv := vM_lt (btS g (g 7)) (8 * x) (btS_le g (g 7)) m
    have hp := pow_le8 m h1
    unfold J_X8_byteAt_b33
    by_cases c : m = 8
    · subst c
      simp (disch := first | omega | assumption) only [nq_neg, nq_fix, nq_sub1, nq_addN, nq_add, nq_mul, nq_sub, nq_ltN, nq_Nlt, nq_leN, nq_Nle, nq_lt, nq_le, nq_eq, nq_div, nq_pow, nq_tn, rd_W, wr_W, nS_eq, nS_ne, Option.bind_some, Option.bind_none, ↓reduceIte, Bool.false_eq_true, Nat.reduceEqDiff, Nat.reduceLT, Nat.reduceLeDiff, Nat.reduceAdd, Nat.reduceMul, Nat.reduceSub, Nat.reducePow, Nat.add_sub_cancel, Nat.zero_le, Nat.not_lt_zero, Nat.le_refl, Nat.lt_irrefl, l_0, l_1, l_2, l_3, l_4, l_5, l_6, l_7, l_8, l_9, l_10, l_13, l_14, l_16, l_20, l_24, l_26, l_30, l_31, l_32, l_48, l_57, l_59, l_63, l_96, l_97, l_100, l_122, l_200, l_255, l_256, l_270, l_400, l_429, l_526, l_780, l_800, l_926, l_1726, l_12082, m_told]
    · have e : nI 2 * nI (vM (btS g (g 7)) (8 * x) m) + nI (btS g (g 7) (8 * x + m)) = nI (vM (btS g (g 7)) (8 * x) (m + 1)) := by
        rw [nq_mul, nq_add]; rfl
      have h8 := ih (m + 1) (by omega) (by omega)
      simp only [l_0, l_1, l_2, l_8, nq_mul, nq_add] at e h8 ⊢
      try simp (disch := first | omega | assumption) only [nq_le, nq_lt, nq_eq]
      rw [if_neg (by omega)]
      try simp (disch := first | omega | assumption) only [nq_le, nq_lt, nq_eq]
      by_cases d : ofs g (g 7) ≤ 8 * x + m
      · rw [if_pos d]
        rw [btS_hi g _ _ d] at e
        rw [e]
        exact h8
      · rw [if_neg d, m_bit fu hf hg _ (by omega)]
        simp only [Option.bind_some, nq_add]
        rw [e]
        exact h8
def kV (g : Nat → Nat) (i N p : Nat) : Nat := vM (btS g (g 7)) i (p - i) * 2 ^ (N - (p - i))
theorem k_bi_b (fu : Nat) {g : Nat → Nat} (hg : GOOD g) {ee : ES} (wr : Nat → Nat) (hwr : e_written ee = nW wr) (k : Nat) (hk : k < g 7) (hw : wr k = gcd_ g k) (i N : Nat) (hi : i < 10000) (hN : N < 9) : ∀ f p, i ≤ p → ofs g k ≤ p → p ≤ i + N → i + N < f + p →
    J_X2_bitsFrom_b51 fu ee f (nI i) (nI N) (nI (kV g i N p)) (nI (ofs g (k + 1))) (nI k) (nI p) = some (nI i, nI N, nI (kV g i N (if p < ofs g (k + 1) then (if ofs g (k + 1) < i + N then ofs g (k + 1) else i + N) else p)), nI (ofs g (k + 1)), nI k, nI (if p < ofs g (k + 1) then (if ofs g (k + 1) < i + N then ofs g (k + 1) else i + N) else p)) := by
  intro f
  obtain ⟨h7, ho, hh⟩ := g_cw hg
  have hmono := ofs_mono g (k + 1) (g 7) (by omega)
  obtain ⟨a1, a2, a3, a4⟩ := hh k hk
  have es := ofs_s g k
  induction f with
  | zero => intro p h1 h2 h3 h4; omega
  | succ f ih =>
    intro p h1 h2 h3 h4
    unfold J_X2_bitsFrom_b51
    try simp (disch := first | omega | assumption) only [nq_le, nq_lt, nq_eq]
    rw [nq_add]
    try simp (disch := first | omega | assumption) only [nq_le, nq_lt, nq_eq]
    by_cases c : ofs g (k + 1) ≤ p
    · rw [if_pos c, if_neg (show ¬ (p < ofs g (k + 1)) by omega)]
    · rw [if_neg c, if_pos (show p < ofs g (k + 1) by omega)]
      by_cases d : i + N ≤ p
      · rw [if_pos d]
        have : (if ofs g (k + 1) < i + N then ofs g (k + 1) else i + N) = p := by
          rw [if_neg (by omega)]; omega
        rw [this]
      · rw [if_neg d, hwr, k_at 800 wr k (by omega) (by omega), hw]
        simp only [Option.bind_some]
        have hv := vM_lt (btS g (g 7)) i (btS_le g (g 7)) (p - i)
        have e1 := sh_bitU (gcd_ g k) a2 (ofs g (k + 1) - 1 - p) (by omega)
        have e2 := btS_at g k p h2 (by omega) (g 7) hk
        have e3 := or_bit N hN (p - i) (by omega) _ hv (btS g (g 7) p) (by have := btS_le g (g 7) p; omega)
        have e4 := ih (p + 1) (by omega) (by omega) (by omega) (by omega)
        have e5 : kV g i N (p + 1) = (2 * vM (btS g (g 7)) i (p - i) + btS g (g 7) p) * 2 ^ (N - 1 - (p - i)) := by
          unfold kV
          rw [show p + 1 - i = p - i + 1 by omega, show N - (p - i + 1) = N - 1 - (p - i) by omega]
          show (2 * vM (btS g (g 7)) i (p - i) + btS g (g 7) (i + (p - i))) * _ = _
          rw [show i + (p - i) = p by omega]
        simp only [l_1, l_31]
        rw [nq_sub _ _ (show 1 ≤ ofs g (k + 1) by omega), nq_sub _ _ (show p ≤ ofs g (k + 1) - 1 by omega), e1, ← e2, nq_sub _ _ (show 1 ≤ i + N by omega), nq_sub _ _ (show p ≤ i + N - 1 by omega), show i + N - 1 - p = N - 1 - (p - i) by omega]
        unfold kV at e5 ⊢
        rw [e3, ← e5, nq_add]
        unfold kV at e4
        rw [e4]
        have : (if p + 1 < ofs g (k + 1) then (if ofs g (k + 1) < i + N then ofs g (k + 1) else i + N) else p + 1) = (if ofs g (k + 1) < i + N then ofs g (k + 1) else i + N) := by
          by_cases q : p + 1 < ofs g (k + 1)
          · rw [if_pos q]
          · rw [if_neg q]
            by_cases r : ofs g (k + 1) < i + N
            · rw [if_pos r]; omega
            · rw [if_neg r]; omega
        rw [this]
theorem k_bf_b (fu : Nat) (hf : 20000 ≤ fu) {g : Nat → Nat} (hg : GOOD g) {ee : ES} (wr wi : Nat → Nat) (hwl : e_writtenLength ee = nI (g 7)) (hwr : e_written ee = nW wr) (hwi : e_widths ee = nW wi) (hww : ∀ i, i < g 7 → wr i = gcd_ g i ∧ wi i = gwd_ g i) (i N : Nat) (hi : i < 10000) (hN : N < 9) : ∀ f k, k ≤ g 7 → g 7 < f + k →
    J_X2_bitsFrom_b8 fu ee f (nI i) (nI N) (nI (kV g i N (if ofs g k < i then i else if ofs g k < i + N then ofs g k else i + N))) (nI (ofs g k)) (nI k) = some (nI (vM (btS g (g 7)) i N)) := by
  intro f
  obtain ⟨h7, ho, hh⟩ := g_cw hg
  have hfull : kV g i N (i + N) = vM (btS g (g 7)) i N := by
    unfold kV
    rw [show i + N - i = N by omega, Nat.sub_self]
    exact Nat.mul_one _
  induction f with
  | zero => intro k h1 h2; omega
  | succ f ih =>
    intro k h1 h2
    unfold J_X2_bitsFrom_b8
    have hmono := ofs_mono g k (g 7) h1
    rw [hwl, hwi]
    try simp (disch := first | omega | assumption) only [nq_le, nq_lt, nq_eq]
    rw [nq_add]
    try simp (disch := first | omega | assumption) only [nq_le, nq_lt, nq_eq]
    by_cases c : g 7 ≤ k
    · rw [if_pos c]
      have hk : k = g 7 := by omega
      subst hk
      refine congrArg (fun z => some (nI z)) ?_
      by_cases d : ofs g (g 7) < i
      · rw [if_pos d]
        have := vM_zero (btS g (g 7)) i 0 (fun j hj => btS_hi g _ j (by omega)) N
        rw [Nat.zero_add] at this
        rw [this]
        unfold kV
        rw [Nat.sub_self, Nat.sub_zero]
      · rw [if_neg d]
        by_cases r : ofs g (g 7) < i + N
        · rw [if_pos r]
          have := vM_zero (btS g (g 7)) i (ofs g (g 7) - i) (fun j hj => btS_hi g _ j (by omega)) (N - (ofs g (g 7) - i))
          rw [show ofs g (g 7) - i + (N - (ofs g (g 7) - i)) = N by omega] at this
          rw [this]
          rfl
        · rw [if_neg r]
          exact hfull
    · rw [if_neg c]
      by_cases d : i + N ≤ ofs g k
      · rw [if_pos d]
        rw [show (if ofs g k < i then i else if ofs g k < i + N then ofs g k else i + N) = i + N by
          rw [if_neg (by omega), if_neg (by omega)], hfull]
      · rw [if_neg d, k_at 800 wi k (by omega) (by omega), (hww k (by omega)).2]
        simp only [Option.bind_some]
        rw [nq_add, ← ofs_s]
        try simp (disch := first | omega | assumption) only [nq_le, nq_lt, nq_eq]
        obtain ⟨a1, a2, a3, a4⟩ := hh k (by omega)
        have es := ofs_s g k
        have hmono2 := ofs_mono g (k + 1) (g 7) (by omega)
        have hp : (if ofs g k < i then i else if ofs g k < i + N then ofs g k else i + N) = (if ofs g k < i then i else ofs g k) := by
          rw [if_pos (show ofs g k < i + N by omega)]
        have hpn : (if ofs g k < i then nI i else nI (ofs g k)) = nI (if ofs g k < i then i else ofs g k) := by split <;> rfl
        have hb : i ≤ (if ofs g k < i then i else ofs g k) ∧ ofs g k ≤ (if ofs g k < i then i else ofs g k) ∧ (if ofs g k < i then i else ofs g k) ≤ i + N := by
          split <;> omega
        have e1 := k_bi_b fu hg wr hwr k (by omega) (hww k (by omega)).1 i N hi hN fu (if ofs g k < i then i else ofs g k) hb.1 hb.2.1 hb.2.2 (by omega)
        have e2 := ih (k + 1) (by omega) (by omega)
        rw [hp, hpn, e1]
        simp only [Option.bind_some, l_1, nq_add]
        rw [← e2]
        have : (if (if ofs g k < i then i else ofs g k) < ofs g (k + 1) then (if ofs g (k + 1) < i + N then ofs g (k + 1) else i + N) else (if ofs g k < i then i else ofs g k)) = (if ofs g (k + 1) < i then i else if ofs g (k + 1) < i + N then ofs g (k + 1) else i + N) := by
          by_cases q1 : ofs g k < i
          · rw [if_pos q1]
            by_cases q2 : i < ofs g (k + 1)
            · rw [if_pos q2, if_neg (show ¬ (ofs g (k + 1) < i) by omega)]
            · rw [if_neg q2]
              by_cases q3 : ofs g (k + 1) < i
              · rw [if_pos q3]
              · rw [if_neg q3]; split <;> omega
          · rw [if_neg q1, if_pos (show ofs g k < ofs g (k + 1) by omega), if_neg (show ¬ (ofs g (k + 1) < i) by omega)]
        rw [this]
theorem k_bitsFrom (fu : Nat) (hf : 20000 ≤ fu) {ee : ES} {g : Nat → Nat} (h : RE ee g) (hg : GOOD g) (i N : Nat) (hi : i < 10000) (hN : N < 9) : J_X2_bitsFrom fu ee (nI i) (nI N) = some (nI (vM (btS g (g 7)) i N)) := by
  obtain ⟨p, l, le, nw, od, en, wr, wi, he, hr, hen, hww⟩ := h
  have h7 := (g_cw hg).1
  have e := k_bf_b fu hf hg (ee := ee) wr wi (by rw [he]; rfl) (by rw [he]; rfl) (by rw [he]; rfl) hww i N hi hN fu 0 (by omega) (by omega)
  have h0 : ofs g 0 = 0 := sm_self _ _
  rw [h0] at e
  have hz : kV g i N (if 0 < i then i else if 0 < i + N then 0 else i + N) = 0 := by
    unfold kV
    have : (if 0 < i then i else if 0 < i + N then 0 else i + N) - i = 0 := by
      split
      · omega
      · split <;> omega
    rw [this]
    exact Nat.zero_mul _
  rw [hz] at e
  exact e
theorem t_bitAt (fu : Nat) (hf : 20000 ≤ fu) (t : Int32) {ee : ES} {g : Nat → Nat} (h : RE ee g) (hg : GOOD g) (x : Int32) :
    (∃ v, J_X7_bitAt fu ee x = some (.inl v) ∧ J_X8_bitAt fu t (nW g) x = some (v, nI 0)) ∨
    (J_X7_bitAt fu ee x = some (.inr "java/lang/IndexOutOfBoundsException") ∧ J_X8_bitAt fu t (nW g) x = some (nI 0, nI 1)) := by
  obtain ⟨h7, ho, hh⟩ := g_cw hg
  have e1 : J_X8_allBits fu (nW g) = some (nI (ofs g (g 7))) := m_allBits fu (by omega) g hg.1.1
  have hb : e_bits ee = nI (ofs g (g 7)) := by obtain ⟨p, l, le, nw, od, en, wr, wi, rfl, _⟩ := h; rfl
  unfold J_X7_bitAt J_X8_bitAt
  rw [hb, e1]
  simp only [Option.bind_some, l_0, l_1]
  rcases ix_cases x (ofs g (g 7)) (by omega) with ⟨p, hp, rfl, a, b⟩ | ⟨a, b⟩
  · rw [a, b]
    refine .inl ⟨nI (btS g (g 7) p), ?_, ?_⟩
    · simp only [Option.bind_some, tr_l]
      rw [k_bitsFrom fu hf h hg p 1 (by omega) (by omega)]
      show some (Sum.inl (nI (2 * 0 + btS g (g 7) (p + 0)))) = _
      rw [Nat.mul_zero, Nat.zero_add, Nat.add_zero]
    · simp (disch := first | omega | assumption) only [nq_neg, nq_fix, nq_sub1, nq_addN, nq_add, nq_mul, nq_sub, nq_ltN, nq_Nlt, nq_leN, nq_Nle, nq_lt, nq_le, nq_eq, nq_div, nq_pow, nq_tn, rd_W, wr_W, nS_eq, nS_ne, Option.bind_some, Option.bind_none, ↓reduceIte, Bool.false_eq_true, Nat.reduceEqDiff, Nat.reduceLT, Nat.reduceLeDiff, Nat.reduceAdd, Nat.reduceMul, Nat.reduceSub, Nat.reducePow, Nat.add_sub_cancel, Nat.zero_le, Nat.not_lt_zero, Nat.le_refl, Nat.lt_irrefl, l_0, l_1, l_2, l_3, l_4, l_5, l_6, l_7, l_8, l_9, l_10, l_13, l_14, l_16, l_20, l_24, l_26, l_30, l_31, l_32, l_48, l_57, l_59, l_63, l_96, l_97, l_100, l_122, l_200, l_255, l_256, l_270, l_400, l_429, l_526, l_780, l_800, l_926, l_1726, l_12082, m_bit fu hf hg p hp, m_told]
  · rw [a, b]
    exact .inr ⟨rfl, rfl⟩
theorem t_byteAt (fu : Nat) (hf : 20000 ≤ fu) (t : Int32) {ee : ES} {g : Nat → Nat} (h : RE ee g) (hg : GOOD g) (f_tape f_dec : Nat → Int32) (oo : OS) (tt : TS) (rr : RS) (sw : SS) (hh : HS) (x : Int32) :
    (∃ v, J_X7_byteAt fu f_tape f_dec ee oo tt rr sw hh x = some (.inl v) ∧ J_X8_byteAt fu t (nW g) x = some (v, nI 0)) ∨
    (J_X7_byteAt fu f_tape f_dec ee oo tt rr sw hh x = some (.inr "java/lang/IndexOutOfBoundsException") ∧ J_X8_byteAt fu t (nW g) x = some (nI 0, nI 1)) := by
  obtain ⟨h7, ho, hq⟩ := g_cw hg
  have e1 : J_X8_allBits fu (nW g) = some (nI (ofs g (g 7))) := m_allBits fu (by omega) g hg.1.1
  have hb : e_bits ee = nI (ofs g (g 7)) := by obtain ⟨p, l, le, nw, od, en, wr, wi, rfl, _⟩ := h; rfl
  unfold J_X7_byteAt J_X7_byteCount J_X8_byteAt J_X8_bytes
  rw [hb, e1]
  simp only [Option.bind_some, l_0, l_1, l_7, l_8, nq_add]
  rw [nq_div _ _ (by omega) (by omega)]
  rcases ix_cases x ((ofs g (g 7) + 7) / 8) (by omega) with ⟨p, hp, rfl, a, b⟩ | ⟨a, b⟩
  · rw [a, b]
    refine .inl ⟨nI (vM (btS g (g 7)) (8 * p) 8), ?_, ?_⟩
    · simp only [Option.bind_some, tr_l, nq_mul]
      rw [k_bitsFrom fu hf h hg (8 * p) 8 (by omega) (by omega)]
      rfl
    · have e2 := m_by_b fu hf hg t p (by omega) fu 0 (by omega) (by omega)
      simp (disch := first | omega | assumption) only [nq_neg, nq_fix, nq_sub1, nq_addN, nq_add, nq_mul, nq_sub, nq_ltN, nq_Nlt, nq_leN, nq_Nle, nq_lt, nq_le, nq_eq, nq_div, nq_pow, nq_tn, rd_W, wr_W, nS_eq, nS_ne, Option.bind_some, Option.bind_none, ↓reduceIte, Bool.false_eq_true, Nat.reduceEqDiff, Nat.reduceLT, Nat.reduceLeDiff, Nat.reduceAdd, Nat.reduceMul, Nat.reduceSub, Nat.reducePow, Nat.add_sub_cancel, Nat.zero_le, Nat.not_lt_zero, Nat.le_refl, Nat.lt_irrefl, l_0, l_1, l_2, l_3, l_4, l_5, l_6, l_7, l_8, l_9, l_10, l_13, l_14, l_16, l_20, l_24, l_26, l_30, l_31, l_32, l_48, l_57, l_59, l_63, l_96, l_97, l_100, l_122, l_200, l_255, l_256, l_270, l_400, l_429, l_526, l_780, l_800, l_926, l_1726, l_12082]
      exact e2
  · rw [a, b]
    exact .inr ⟨rfl, rfl⟩
