/-! the model reads a token -/
def lI (n : Nat) : Int64 := Int64.ofNat n
theorem lI_mul (a b : Nat) : lI a * lI b = lI (a * b) := by
  show Int64.ofNat a * Int64.ofNat b = Int64.ofNat (a * b)
  rw [Int64.ofNat_mul]
theorem lI_add (a b : Nat) : lI a + lI b = lI (a + b) := by
  show Int64.ofNat a + Int64.ofNat b = Int64.ofNat (a + b)
  rw [Int64.ofNat_add]
theorem lI_sub (a b : Nat) (h : b ≤ a) : lI a - lI b = lI (a - b) := by
  have h1 : lI a = lI (a - b) + lI b := by rw [lI_add, Nat.sub_add_cancel h]
  rw [h1, Int64.add_sub_cancel]
theorem lI_toInt (a : Nat) (h : a < 9223372036854775808) : (lI a).toInt = a := by
  show (Int64.ofNat a).toInt = a
  rw [Int64.toInt_ofNat_of_lt (by exact h)]
theorem lI_of (a : Nat) (h : a < 2147483648) : (nI a).toInt64 = lI a := by
  apply Int64.toInt_inj.mp
  rw [Int32.toInt_toInt64, nq_toInt a h, lI_toInt a (by omega)]
theorem lI_inj (a b : Nat) (ha : a < 9223372036854775808) (hb : b < 9223372036854775808) (h : lI a = lI b) : a = b := by
  have := congrArg Int64.toInt h
  rw [lI_toInt a ha, lI_toInt b hb] at this
  omega
def wN (b : Nat → Nat) (s : Nat) : Nat → Nat
| 0 => 0
| j + 1 => 32 * wN b s j + (b (s + j) - 96)
def wI (b : Nat → Nat) (s j : Nat) : Int64 := if j ≤ 7 then lI (wN b s j) else lI 0
def nN (b : Nat → Nat) (s : Nat) : Nat → Nat
| 0 => 0
| j + 1 => if j < 3 then 10 * nN b s j + (b (s + j) - 48) else nN b s j
theorem nN_lt (b : Nat → Nat) (s : Nat) : ∀ j, (∀ i, i < j → b (s + i) ≤ 57) → nN b s j < 1000 ∧ (j = 0 → nN b s j < 1) ∧ (j = 1 → nN b s j < 10) ∧ (j = 2 → nN b s j < 100) := by
  intro j
  induction j with
  | zero => intro _; exact ⟨by show 0 < 1000; omega, fun _ => by show 0 < 1; omega, fun h => by omega, fun h => by omega⟩
  | succ j ih =>
    intro h
    obtain ⟨a1, a2, a3, a4⟩ := ih fun i hi => h i (by omega)
    have h1 := h j (by omega)
    have e : nN b s (j + 1) = if j < 3 then 10 * nN b s j + (b (s + j) - 48) else nN b s j := rfl
    rw [e]
    by_cases c : j < 3
    · rw [if_pos c]
      have : j = 0 ∨ j = 1 ∨ j = 2 := by omega
      rcases this with q | q | q
      · have := a2 q; omega
      · have := a3 q; omega
      · have := a4 q; omega
    · rw [if_neg c]
      omega
def TKM (b : Nat → Nat) (k s n : Nat) (word : Int64) (letters number : Int32) : Prop := (k = 1 → word = wI b s (n - s) ∧ letters = nI (n - s)) ∧ (k = 2 → number = nI (nN b s (n - s)))
theorem m_tl_b (fu : Nat) {v : Nat → Int32} {b : Nat → Nat} {T s n : Nat} (hT : T ≤ 800) (hv : ∀ i, i < T → b i < 256 ∧ v i = sb (b i)) (hr : Run (bLe b) T s n) (hn : n ≤ T) (kd lt : Int32) : ∀ m j, s ≤ j → j ≤ n → n < m + j →
    J_X8_takesLetters_b5 fu v (nI T) (nI s) m (nI j) kd (wI b s (j - s)) lt = some (nI n, nI 1, wI b s (n - s), nI (n - s)) := by
  intro m
  induction m with
  | zero => intro j h1 h2 h3; omega
  | succ m ih =>
    intro j h1 h2 h3
    rw [J_X8_takesLetters_b5]
    have hm := m_letterAt hT hv j (by omega)
    by_cases d : j < n
    · have hl := hr.2.2.1 j h1 d
      obtain ⟨h4, h5⟩ := hv j (by omega)
      rw [hm.1 ⟨by omega, hl⟩]
      simp only [Option.bind_some]
      unfold bLe at hl
      rw [if_neg (show ¬ (nI 1 = 0) by decide), nq_sub _ _ h1]
      have ih' := ih (j + 1) (by omega) (by omega) (by omega)
      rw [show j + 1 - s = j - s + 1 by omega] at ih'
      by_cases c : 7 ≤ j - s
      · rw [if_pos (by rw [l_7, nq_le _ _ (by omega) (by omega)]; exact c), l_1, nq_add]
        have : wI b s (j - s + 1) = (0 : Int64) := if_neg (by omega)
        rw [this] at ih'
        exact ih'
      · have e : sb (b j) = nI (b j) := if_pos (by omega)
        have e1 : wI b s (j - s) = lI (wN b s (j - s)) := if_pos (by omega)
        have e2 : wI b s (j - s + 1) = lI (32 * wN b s (j - s) + (b j - 96)) := by
          have : wI b s (j - s + 1) = lI (32 * wN b s (j - s) + (b (s + (j - s)) - 96)) := if_pos (by omega)
          rw [this, show s + (j - s) = j by omega]
        rw [if_neg (by rw [l_7, nq_le _ _ (by omega) (by omega)]; exact c), l_1, nq_add, rd_F 800 v j (by omega) (by omega), h5, e]
        simp only [Option.bind_some]
        rw [e2] at ih'
        rw [e1, lI_of _ (by omega), show ((32 : Int64) * lI (wN b s (j - s)) + lI (b j) - (96 : Int64)) = lI (32 * wN b s (j - s) + (b j - 96)) from by
          rw [show (32 : Int64) = lI 32 from rfl, show (96 : Int64) = lI 96 from rfl, lI_mul, lI_add, lI_sub _ _ (by omega), show 32 * wN b s (j - s) + b j - 96 = 32 * wN b s (j - s) + (b j - 96) by omega]]
        exact ih'
    · have hj : j = n := by omega
      subst hj
      have h0 : J_X8_isByte v (nI T) (nI j) (97 : Int32) (122 : Int32) = some (nI 0) := hm.2 fun h => (hr.2.2.2 h.1) h.2
      rw [h0]
      simp only [Option.bind_some]
      rw [if_pos n00, nq_sub _ _ h1]
      unfold J_X8_takesLetters_b105
      by_cases c : j - s ≤ 7
      · rw [if_pos (by rw [l_7, nq_le _ _ (by omega) (by omega)]; exact c)]
        rfl
      · rw [if_neg (by rw [l_7, nq_le _ _ (by omega) (by omega)]; exact c)]
        have : wI b s (j - s) = (0 : Int64) := if_neg c
        rw [this]
        rfl
theorem m_td_b (fu : Nat) {v : Nat → Int32} {b : Nat → Nat} {T s n : Nat} (hT : T ≤ 800) (hv : ∀ i, i < T → b i < 256 ∧ v i = sb (b i)) (hr : Run (bDi b) T s n) (hn : n ≤ T) (kd : Int32) : ∀ m j, s ≤ j → j ≤ n → n < m + j →
    J_X8_takesDigits_b5 fu v (nI T) (nI s) m (nI j) kd (nI (nN b s (j - s))) = some (nI n, nI (if n - s ≤ 3 then 2 else 4), nI (nN b s (n - s))) := by
  intro m
  induction m with
  | zero => intro j h1 h2 h3; omega
  | succ m ih =>
    intro j h1 h2 h3
    rw [J_X8_takesDigits_b5]
    have hm := m_digitAt hT hv j (by omega)
    by_cases d : j < n
    · have hl := hr.2.2.1 j h1 d
      obtain ⟨h4, h5⟩ := hv j (by omega)
      rw [hm.1 ⟨by omega, hl⟩]
      simp only [Option.bind_some]
      unfold bDi at hl
      rw [if_neg (show ¬ (nI 1 = 0) by decide), nq_sub _ _ h1]
      have ih' := ih (j + 1) (by omega) (by omega) (by omega)
      rw [show j + 1 - s = j - s + 1 by omega, show nN b s (j - s + 1) = if j - s < 3 then 10 * nN b s (j - s) + (b (s + (j - s)) - 48) else nN b s (j - s) from rfl, show s + (j - s) = j by omega] at ih'
      by_cases c : 3 ≤ j - s
      · rw [if_neg (by omega)] at ih'
        rw [if_pos (by rw [l_3, nq_le _ _ (by omega) (by omega)]; exact c), l_1, nq_add]
        exact ih'
      · have e : sb (b j) = nI (b j) := if_pos (by omega)
        rw [if_pos (by omega)] at ih'
        rw [if_neg (by rw [l_3, nq_le _ _ (by omega) (by omega)]; exact c), l_1, nq_add, rd_F 800 v j (by omega) (by omega), h5, e]
        simp only [Option.bind_some]
        rw [l_10, l_48, nq_mul, nq_add, nq_sub _ _ (by omega), show 10 * nN b s (j - s) + b j - 48 = 10 * nN b s (j - s) + (b j - 48) by omega]
        exact ih'
    · have hj : j = n := by omega
      subst hj
      have h0 : J_X8_isByte v (nI T) (nI j) (48 : Int32) (57 : Int32) = some (nI 0) := hm.2 fun h => (hr.2.2.2 h.1) h.2
      rw [h0]
      simp only [Option.bind_some]
      rw [if_pos n00, nq_sub _ _ h1]
      unfold J_X8_takesDigits_b92
      by_cases c : j - s ≤ 3
      · rw [if_pos (by rw [l_3, nq_le _ _ (by omega) (by omega)]; exact c), if_pos c]
        rfl
      · rw [if_neg (by rw [l_3, nq_le _ _ (by omega) (by omega)]; exact c), if_neg c]
        rfl
theorem m_52 (fu : Nat) (hf : 20000 ≤ fu) {v : Nat → Int32} {b : Nat → Nat} {T e k s n : Nat} (hT : T ≤ 800) (hv : ∀ i, i < T → b i < 256 ∧ v i = sb (b i)) (h : TK b T e k s n) (st kd : Int32) (word : Int64) (lt nm : Int32) :
    ∃ word' lt' nm', J_X8_nextToken_b52 fu v (nI T) (nI s) st kd word lt nm = some (nI n, nI s, nI k, word', lt', nm') ∧ TKM b k s n word' lt' nm' := by
  obtain ⟨h1, hsT, h⟩ := h
  have hml := m_letterAt hT hv s hsT
  have hmd := m_digitAt hT hv s hsT
  unfold J_X8_nextToken_b52
  rcases h with ⟨a1, a2, a3⟩ | ⟨a1, a2, a3, a4, a5, a6⟩ | ⟨a1, a2, a3, a4, a5, a6⟩ | ⟨a1, a2, a3, a4, a5⟩
  · refine ⟨word, lt, nm, ?_, fun hk => by omega, fun hk => by omega⟩
    rw [if_pos (by rw [a1]), a2, a3]
    rfl
  · have e := m_tl_b fu hT hv a6 a5 kd lt fu s (Nat.le_refl _) (by omega) (by omega)
    rw [Nat.sub_self] at e
    refine ⟨wI b s (n - s), nI (n - s), nm, ?_, fun _ => ⟨rfl, rfl⟩, fun hk => by omega⟩
    rw [if_neg (by rw [nq_eq _ _ (by omega) (by omega)]; omega), hml.1 ⟨a1, a2⟩]
    simp only [Option.bind_some]
    rw [if_neg (show ¬ (nI 1 = 0) by decide), show J_X8_takesLetters fu v (nI T) (nI s) (nI s) kd word lt = _ from e, a3]
    rfl
  · have e := m_td_b fu hT hv a6 a5 kd fu s (Nat.le_refl _) (by omega) (by omega)
    rw [Nat.sub_self] at e
    unfold bDi at a2
    refine ⟨word, lt, nI (nN b s (n - s)), ?_, fun hk => by rw [a3] at hk; split at hk <;> omega, fun _ => rfl⟩
    rw [if_neg (by rw [nq_eq _ _ (by omega) (by omega)]; omega), hml.2 (fun hx => by have := hx.2; unfold bLe at this; omega)]
    simp only [Option.bind_some]
    rw [if_pos n00, hmd.1 ⟨a1, a2⟩]
    simp only [Option.bind_some]
    rw [if_neg (show ¬ (nI 1 = 0) by decide), show J_X8_takesDigits fu v (nI T) (nI s) (nI s) kd nm = _ from e, a3]
    rfl
  · obtain ⟨h4, h5⟩ := hv s a1
    have q := (sb_tab _ h4).2.2.1
    refine ⟨word, lt, nm, ?_, fun hk => by rw [a4] at hk; split at hk <;> omega, fun hk => by rw [a4] at hk; split at hk <;> omega⟩
    rw [if_neg (by rw [nq_eq _ _ (by omega) (by omega)]; omega), hml.2 (fun hx => a2 hx.2)]
    simp only [Option.bind_some]
    rw [if_pos n00, hmd.2 (fun hx => a3 hx.2)]
    simp only [Option.bind_some]
    rw [if_pos n00, rd_F 800 v s (by omega) (by omega), h5]
    simp only [Option.bind_some]
    unfold J_X8_nextToken_b135
    by_cases c3 : b s = 59
    · rw [if_pos (q.mpr c3), a4, if_pos c3, a5, ← nq_add]
      rfl
    · rw [if_neg (fun x => c3 (q.mp x)), a4, if_neg c3, a5, ← nq_add]
      rfl
theorem m_nt_b (fu : Nat) (hf : 20000 ≤ fu) {v : Nat → Int32} {b : Nat → Nat} {T e k s n : Nat} (hT : T ≤ 800) (hv : ∀ i, i < T → b i < 256 ∧ v i = sb (b i)) (h : TK b T e k s n) (st kd : Int32) (word : Int64) (lt nm : Int32) : ∀ m j, e ≤ j → j ≤ s → s < m + j →
    ∃ word' lt' nm', J_X8_nextToken_b0 fu v (nI T) m (nI j) st kd word lt nm = some (nI n, nI s, nI k, word', lt', nm') ∧ TKM b k s n word' lt' nm' := by
  intro m
  have hn := TK_n h
  induction m with
  | zero => intro j h1 h2 h3; omega
  | succ m ih =>
    intro j h1 h2 h3
    rw [J_X8_nextToken_b0]
    by_cases c : T ≤ j
    · rw [if_pos (by rw [nq_le _ _ (by omega) (by omega)]; exact c), show j = s by omega]
      exact m_52 fu hf hT hv h st kd word lt nm
    · obtain ⟨h4, h5⟩ := hv j (by omega)
      obtain ⟨q1, q2, _⟩ := sb_tab _ h4
      rw [if_neg (by rw [nq_le _ _ (by omega) (by omega)]; exact c), rd_F 800 v j (by omega) (by omega), h5]
      simp only [Option.bind_some]
      rw [show nI j + (1 : Int32) = nI (j + 1) by rw [l_1, nq_add]]
      by_cases d : j < s
      · have := h.1.2.2.1 j h1 d
        unfold bBl at this
        have ih' := ih (j + 1) (by omega) (by omega) (by omega)
        rcases this with c1 | c1
        · rw [if_pos (q1.mpr c1)]
          exact ih'
        · rw [if_neg (fun x => by have := q1.mp x; omega), if_pos (q2.mpr c1)]
          exact ih'
      · have := h.1.2.2.2 (by omega)
        unfold bBl at this
        have hj : j = s := by omega
        rw [hj] at q1 q2 ⊢
        rw [if_neg (fun x => this (.inl (q1.mp x))), if_neg (fun x => this (.inr (q2.mp x)))]
        exact m_52 fu hf hT hv h st kd word lt nm
theorem m_next (fu : Nat) (hf : 20000 ≤ fu) {v : Nat → Int32} {b : Nat → Nat} {T e k s n : Nat} (hT : T ≤ 800) (hv : ∀ i, i < T → b i < 256 ∧ v i = sb (b i)) (h : TK b T e k s n) (st kd : Int32) (word : Int64) (lt nm : Int32) :
    ∃ word' lt' nm', J_X8_nextToken fu v (nI T) (nI e) st kd word lt nm = some (nI n, nI s, nI k, word', lt', nm') ∧ TKM b k s n word' lt' nm' := by
  have hn := TK_n h
  exact m_nt_b fu hf hT hv h st kd word lt nm (fu + 1) e (Nat.le_refl _) (by omega) (by omega)
/-! what the model accepts -/
theorem m_acc_ok (fu : Nat) (v : Nat → Int32) (x1 x2 x3 x4 : Int32) (x5 : Int64) (x6 x7 : Int32) (T : Int32) (p : Nat) (hp : p = 1) :
    J_X8_accepts fu v T x1 x2 x3 x4 x5 x6 x7 (nI 1) (nI p) = (J_X8_nextToken fu v T x2 x3 x4 x5 x6 x7).bind fun z => some (x1, z.1, z.2.1, z.2.2.1, z.2.2.2.1, z.2.2.2.2.1, z.2.2.2.2.2, nI 1) := by
  subst hp
  rfl
theorem m_acc_bad (fu : Nat) (v : Nat → Int32) (x1 x2 x3 x4 : Int32) (x5 : Int64) (x6 x7 : Int32) (T : Int32) :
    J_X8_accepts fu v T x1 x2 x3 x4 x5 x6 x7 (nI 1) (nI 0) = some (x3, x2, x3, x4, x5, x6, x7, nI 0) := rfl
theorem m_acc_0 (fu : Nat) (v : Nat → Int32) (x1 x2 x3 x4 : Int32) (x5 : Int64) (x6 x7 : Int32) (T p : Int32) :
    J_X8_accepts fu v T x1 x2 x3 x4 x5 x6 x7 (nI 0) p = some (x1, x2, x3, x4, x5, x6, x7, nI 0) := rfl
theorem TK_2 {b : Nat → Nat} {T e s n : Nat} (h : TK b T e 2 s n) : s < T ∧ s < n ∧ n ≤ T ∧ n - s ≤ 3 ∧ ∀ i, s ≤ i → i < n → bDi b i := by
  obtain ⟨_, hsT, h⟩ := h
  rcases h with ⟨a1, a2, a3⟩ | ⟨a1, a2, a3, a4, a5, a6⟩ | ⟨a1, a2, a3, a4, a5, a6⟩ | ⟨a1, a2, a3, a4, a5⟩
  · omega
  · omega
  · split at a3
    · exact ⟨a1, a4, a5, by assumption, a6.2.2.1⟩
    · omega
  · split at a4 <;> omega
theorem TK_1 {b : Nat → Nat} {T e s n : Nat} (h : TK b T e 1 s n) : s < T ∧ s < n ∧ n ≤ T ∧ ∀ i, s ≤ i → i < n → bLe b i := by
  obtain ⟨_, hsT, h⟩ := h
  rcases h with ⟨a1, a2, a3⟩ | ⟨a1, a2, a3, a4, a5, a6⟩ | ⟨a1, a2, a3, a4, a5, a6⟩ | ⟨a1, a2, a3, a4, a5⟩
  · omega
  · exact ⟨a1, a4, a5, a6.2.2.1⟩
  · split at a3 <;> omega
  · split at a4 <;> omega
theorem k_nm_b (fu : Nat) {f : Nat → Int32} {b : Nat → Nat} {T s n : Nat} (hT : T ≤ 800) (hv : ∀ i, i < T → b i < 256 ∧ f i = nI (b i)) (hn : n ≤ T) (h3 : n - s ≤ 3) (hd : ∀ i, s ≤ i → i < n → bDi b i) (x y : Int32) : ∀ m j, s ≤ j → j ≤ n → n < m + j →
    J_X6_number_b7 fu (mkT (nI T) x y (nI n)) 800 f m (nI (nN b s (j - s))) (nI j) = some (nI (nN b s (n - s))) := by
  intro m
  induction m with
  | zero => intro j h1 h2 h3; omega
  | succ m ih =>
    intro j h1 h2 h4
    rw [J_X6_number_b7]
    show (if nI n ≤ nI j then _ else _) = _
    by_cases c : n ≤ j
    · rw [if_pos (by rw [nq_le _ _ (by omega) (by omega)]; exact c), show j = n by omega]
    · have hl := hd j h1 (by omega)
      unfold bDi at hl
      have ih' := ih (j + 1) (by omega) (by omega) (by omega)
      rw [show j + 1 - s = j - s + 1 by omega, show nN b s (j - s + 1) = if j - s < 3 then 10 * nN b s (j - s) + (b (s + (j - s)) - 48) else nN b s (j - s) from rfl, show s + (j - s) = j by omega, if_pos (by omega)] at ih'
      rw [if_neg (by rw [nq_le _ _ (by omega) (by omega)]; exact c), at_F 800 f j (by omega) (by omega), (hv j (by omega)).2]
      simp only [Option.bind_some]
      rw [l_10, l_48, nq_mul, nq_sub _ _ hl.1, nq_add, l_1, nq_add]
      exact ih'
theorem k_number6 (fu : Nat) (hf : 20000 ≤ fu) {f : Nat → Int32} {b : Nat → Nat} {T e s n : Nat} (hT : T ≤ 800) (hv : ∀ i, i < T → b i < 256 ∧ f i = nI (b i)) (h : TK b T e 2 s n) (x : Int32) : J_X6_number fu (mkT (nI T) x (nI s) (nI n)) 800 f = some (nI (nN b s (n - s))) ∧ nN b s (n - s) < 1000 := by
  obtain ⟨h1, h2, h3, h4, h5⟩ := TK_2 h
  have := k_nm_b fu hT hv h3 h4 h5 x (nI s) fu s (Nat.le_refl _) (by omega) (by omega)
  rw [Nat.sub_self] at this
  refine ⟨this, (nN_lt b s (n - s) fun i hi => ?_).1⟩
  have := h5 (s + i) (by omega) (by omega)
  unfold bDi at this
  exact this.2
