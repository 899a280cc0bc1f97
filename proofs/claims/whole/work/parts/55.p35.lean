/-! the tokens of the tape, both sides -/
theorem n00 : nI 0 = (0 : Int32) := rfl
def Run (q : Nat → Prop) (T e r : Nat) : Prop := e ≤ r ∧ (r ≤ T ∨ r = e) ∧ (∀ i, e ≤ i → i < r → q i) ∧ (r < T → ¬ q r)
theorem run_ex (q : Nat → Prop) (T : Nat) : ∀ m e, T - e < m → ∃ r, Run q T e r := by
  intro m
  induction m with
  | zero => intro e h; omega
  | succ m ih =>
    intro e h
    by_cases c : e < T ∧ q e
    · obtain ⟨r, a1, a2, a3, a4⟩ := ih (e + 1) (by omega)
      refine ⟨r, by omega, ?_, fun i h1 h2 => ?_, a4⟩
      · rcases a2 with h | h
        · exact .inl h
        · exact .inl (by omega)
      · by_cases d : i = e
        · rw [d]; exact c.2
        · exact a3 i (by omega) h2
    · exact ⟨e, Nat.le_refl _, .inr rfl, fun i h1 h2 => by omega, fun h1 h2 => c ⟨h1, h2⟩⟩
def bBl (b : Nat → Nat) (i : Nat) : Prop := b i = 32 ∨ b i = 10
def bLe (b : Nat → Nat) (i : Nat) : Prop := 97 ≤ b i ∧ b i ≤ 122
def bDi (b : Nat → Nat) (i : Nat) : Prop := 48 ≤ b i ∧ b i ≤ 57
/-- the token behind a place: its kind, its begin, its end -/
def TK (b : Nat → Nat) (T e k s n : Nat) : Prop := Run (bBl b) T e s ∧ s ≤ T ∧
  ((s = T ∧ k = 0 ∧ n = s) ∨ (s < T ∧ bLe b s ∧ k = 1 ∧ s < n ∧ n ≤ T ∧ Run (bLe b) T s n) ∨
   (s < T ∧ bDi b s ∧ k = (if n - s ≤ 3 then 2 else 4) ∧ s < n ∧ n ≤ T ∧ Run (bDi b) T s n) ∨
   (s < T ∧ ¬ bLe b s ∧ ¬ bDi b s ∧ k = (if b s = 59 then 3 else 4) ∧ n = s + 1))
theorem tk_ex (b : Nat → Nat) (T e : Nat) (he : e ≤ T) : ∃ k s n, TK b T e k s n := by
  obtain ⟨s, hs⟩ := run_ex (bBl b) T (T + 1) e (by omega)
  have hsT : s ≤ T := by
    rcases hs.2.1 with h | h
    · exact h
    · omega
  by_cases c1 : s = T
  · exact ⟨0, s, s, hs, hsT, .inl ⟨c1, rfl, rfl⟩⟩
  · by_cases c2 : bLe b s
    · obtain ⟨n, hn⟩ := run_ex (bLe b) T (T + 1) s (by omega)
      have h1 : s < n := by
        rcases Nat.lt_or_ge s n with h | h
        · exact h
        · have : n = s := by have := hn.1; omega
          rw [this] at hn
          exact absurd c2 (hn.2.2.2 (by omega))
      have h2 : n ≤ T := by
        rcases hn.2.1 with h | h
        · exact h
        · omega
      exact ⟨1, s, n, hs, hsT, .inr (.inl ⟨by omega, c2, rfl, h1, h2, hn⟩)⟩
    · by_cases c3 : bDi b s
      · obtain ⟨n, hn⟩ := run_ex (bDi b) T (T + 1) s (by omega)
        have h1 : s < n := by
          rcases Nat.lt_or_ge s n with h | h
          · exact h
          · have : n = s := by have := hn.1; omega
            rw [this] at hn
            exact absurd c3 (hn.2.2.2 (by omega))
        have h2 : n ≤ T := by
          rcases hn.2.1 with h | h
          · exact h
          · omega
        exact ⟨_, s, n, hs, hsT, .inr (.inr (.inl ⟨by omega, c3, rfl, h1, h2, hn⟩))⟩
      · exact ⟨_, s, s + 1, hs, hsT, .inr (.inr (.inr ⟨by omega, c2, c3, rfl, rfl⟩))⟩
theorem TK_n {b : Nat → Nat} {T e k s n : Nat} (h : TK b T e k s n) : e ≤ s ∧ s ≤ T ∧ s ≤ n ∧ n ≤ T ∧ k ≤ 4 ∧ (k = 0 ↔ s = T) ∧ (s < T → s < n) := by
  obtain ⟨⟨h1, h2, h3, h4⟩, hsT, h⟩ := h
  rcases h with ⟨a1, a2, a3⟩ | ⟨a1, a2, a3, a4, a5, a6⟩ | ⟨a1, a2, a3, a4, a5, a6⟩ | ⟨a1, a2, a3, a4, a5⟩
  · omega
  · omega
  · split at a3 <;> omega
  · split at a4 <;> omega
/-! a byte's kind, in the class and in the model -/
theorem k_bl (c : Nat) (hc : c < 256) : J_X6_isBlank (nI c) = some (nI (if c = 32 ∨ c = 10 then 1 else 0)) := by
  have H : ∀ c, c < 256 → J_X6_isBlank (nI c) = some (nI (if c = 32 ∨ c = 10 then 1 else 0)) := by decide +kernel
  exact H c hc
theorem k_le (c : Nat) (hc : c < 256) : J_X6_isLetter (nI c) = some (nI (if 97 ≤ c ∧ c ≤ 122 then 1 else 0)) := by
  have H : ∀ c, c < 256 → J_X6_isLetter (nI c) = some (nI (if 97 ≤ c ∧ c ≤ 122 then 1 else 0)) := by decide +kernel
  exact H c hc
theorem k_di (c : Nat) (hc : c < 256) : J_X6_isDigit (nI c) = some (nI (if 48 ≤ c ∧ c ≤ 57 then 1 else 0)) := by
  have H : ∀ c, c < 256 → J_X6_isDigit (nI c) = some (nI (if 48 ≤ c ∧ c ≤ 57 then 1 else 0)) := by decide +kernel
  exact H c hc
theorem sb_tab : ∀ c, c < 256 → ((sb c = (32 : Int32)) ↔ c = 32) ∧ ((sb c = (10 : Int32)) ↔ c = 10) ∧ ((sb c = (59 : Int32)) ↔ c = 59) ∧
    ((¬ (sb c < (97 : Int32)) ∧ ¬ ((122 : Int32) < sb c)) ↔ (97 ≤ c ∧ c ≤ 122)) ∧ ((¬ (sb c < (48 : Int32)) ∧ ¬ ((57 : Int32) < sb c)) ↔ (48 ≤ c ∧ c ≤ 57)) ∧ (nI c = (59 : Int32) ↔ c = 59) := by decide +kernel
theorem m_isByte (v : Nat → Int32) (T i : Nat) (lo hi : Int32) (hT : T ≤ 800) (hi' : i ≤ T) : J_X8_isByte v (nI T) (nI i) lo hi = some (if i < T ∧ ¬ (v i < lo) ∧ ¬ (hi < v i) then 1 else 0) := by
  unfold J_X8_isByte
  try simp (disch := first | omega | assumption) only [nq_le, nq_lt, nq_eq]
  by_cases c : T ≤ i
  · rw [if_pos c, if_neg (fun h => by have := h.1; omega)]
  · rw [if_neg c, rd_F 800 v i (by omega) (by omega)]
    simp only [Option.bind_some]
    by_cases d : v i < lo
    · rw [if_pos d, if_neg (fun h => h.2.1 d)]
    · rw [if_neg d]
      by_cases q : hi < v i
      · rw [if_pos q, if_neg (fun h => h.2.2 q)]
      · rw [if_neg q, if_pos ⟨by omega, d, q⟩]
theorem m_letterAt {v : Nat → Int32} {b : Nat → Nat} {T : Nat} (hT : T ≤ 800) (hv : ∀ i, i < T → b i < 256 ∧ v i = sb (b i)) (i : Nat) (hi : i ≤ T) :
    (i < T ∧ bLe b i → J_X8_isByte v (nI T) (nI i) (97 : Int32) (122 : Int32) = some (nI 1)) ∧ (¬ (i < T ∧ bLe b i) → J_X8_isByte v (nI T) (nI i) (97 : Int32) (122 : Int32) = some (nI 0)) := by
  rw [m_isByte v T i _ _ hT hi]
  refine ⟨fun h => ?_, fun h => ?_⟩
  · obtain ⟨h1, h2⟩ := hv i h.1
    rw [if_pos ⟨h.1, by rw [h2]; exact (sb_tab _ h1).2.2.2.1.mpr h.2⟩]
    rfl
  · rw [if_neg]
    · rfl
    · intro hx
      obtain ⟨h1, h2⟩ := hv i hx.1
      rw [h2] at hx
      exact h ⟨hx.1, (sb_tab _ h1).2.2.2.1.mp hx.2⟩
theorem m_digitAt {v : Nat → Int32} {b : Nat → Nat} {T : Nat} (hT : T ≤ 800) (hv : ∀ i, i < T → b i < 256 ∧ v i = sb (b i)) (i : Nat) (hi : i ≤ T) :
    (i < T ∧ bDi b i → J_X8_isByte v (nI T) (nI i) (48 : Int32) (57 : Int32) = some (nI 1)) ∧ (¬ (i < T ∧ bDi b i) → J_X8_isByte v (nI T) (nI i) (48 : Int32) (57 : Int32) = some (nI 0)) := by
  rw [m_isByte v T i _ _ hT hi]
  refine ⟨fun h => ?_, fun h => ?_⟩
  · obtain ⟨h1, h2⟩ := hv i h.1
    rw [if_pos ⟨h.1, by rw [h2]; exact (sb_tab _ h1).2.2.2.2.1.mpr h.2⟩]
    rfl
  · rw [if_neg]
    · rfl
    · intro hx
      obtain ⟨h1, h2⟩ := hv i hx.1
      rw [h2] at hx
      exact h ⟨hx.1, (sb_tab _ h1).2.2.2.2.1.mp hx.2⟩
/-! the class reads a token -/
theorem k_rw_b (fu : Nat) {f : Nat → Int32} {b : Nat → Nat} {T s n : Nat} (hT : T ≤ 800) (hv : ∀ i, i < T → b i < 256 ∧ f i = nI (b i)) (hr : Run (bLe b) T s n) (hn : n ≤ T) (k : Int32) (st : Int32) : ∀ m j, s ≤ j → j ≤ n → n < m + j →
    J_X6_readWord_b0 fu 800 f m (mkT (nI T) k st (nI j)) = some (mkT (nI T) (nI 1) st (nI n)) := by
  intro m
  induction m with
  | zero => intro j h1 h2 h3; omega
  | succ m ih =>
    intro j h1 h2 h3
    rw [J_X6_readWord_b0]
    show (if nI T ≤ nI j then J_X6_readWord_b41 fu 800 f (mkT (nI T) k st (nI j)) else _) = _
    try simp (disch := first | omega | assumption) only [nq_le, nq_lt, nq_eq]
    by_cases c : T ≤ j
    · rw [if_pos c, show j = n by omega]
      rfl
    · obtain ⟨h4, h5⟩ := hv j (by omega)
      rw [if_neg c]
      show ((J_X7_at 800 f (nI j)).bind fun z8 => (J_X6_isLetter z8).bind fun z10 => if z10 = 0 then J_X6_readWord_b41 fu 800 f (mkT (nI T) k st (nI j)) else J_X6_readWord_b0 fu 800 f m (mkT (nI T) k st (nI j + (1 : Int32)))) = _
      rw [at_F 800 f j (by omega) (by omega), h5]
      simp only [Option.bind_some]
      rw [k_le _ h4]
      simp only [Option.bind_some]
      by_cases d : j < n
      · have := hr.2.2.1 j h1 d
        unfold bLe at this
        rw [if_pos this, if_neg (by decide), l_1, nq_add]
        exact ih (j + 1) (by omega) (by omega) (by omega)
      · have := hr.2.2.2 (by omega)
        unfold bLe at this
        rw [show j = n by omega, if_neg this, if_pos n00]
        rfl
theorem k_rn_b (fu : Nat) {f : Nat → Int32} {b : Nat → Nat} {T s n : Nat} (hT : T ≤ 800) (hv : ∀ i, i < T → b i < 256 ∧ f i = nI (b i)) (hr : Run (bDi b) T s n) (hn : n ≤ T) (hsn : s < n) (k : Int32) : ∀ m j, s ≤ j → j ≤ n → n < m + j →
    J_X6_readNumber_b0 fu 800 f m (mkT (nI T) k (nI s) (nI j)) = some (mkT (nI T) (nI (if n - s ≤ 3 then 2 else 4)) (nI s) (nI n)) := by
  have hb : J_X6_readNumber_b41 fu 800 f (mkT (nI T) k (nI s) (nI n)) = some (mkT (nI T) (nI (if n - s ≤ 3 then 2 else 4)) (nI s) (nI n)) := by
    unfold J_X6_readNumber_b41 J_X6_readNumber_b60
    show (if (3 : Int32) < nI n - nI s then _ else _) = _
    rw [nq_sub _ _ (by omega), l_3]
    try simp (disch := first | omega | assumption) only [nq_le, nq_lt, nq_eq]
    by_cases c : n - s ≤ 3
    · rw [if_neg (by omega), if_pos c]; rfl
    · rw [if_pos (by omega), if_neg c]; rfl
  intro m
  induction m with
  | zero => intro j h1 h2 h3; omega
  | succ m ih =>
    intro j h1 h2 h3
    rw [J_X6_readNumber_b0]
    show (if nI T ≤ nI j then J_X6_readNumber_b41 fu 800 f (mkT (nI T) k (nI s) (nI j)) else _) = _
    try simp (disch := first | omega | assumption) only [nq_le, nq_lt, nq_eq]
    by_cases c : T ≤ j
    · rw [if_pos c, show j = n by omega]
      exact hb
    · obtain ⟨h4, h5⟩ := hv j (by omega)
      rw [if_neg c]
      show ((J_X7_at 800 f (nI j)).bind fun z9 => (J_X6_isDigit z9).bind fun z11 => if z11 = 0 then J_X6_readNumber_b41 fu 800 f (mkT (nI T) k (nI s) (nI j)) else J_X6_readNumber_b0 fu 800 f m (mkT (nI T) k (nI s) (nI j + (1 : Int32)))) = _
      rw [at_F 800 f j (by omega) (by omega), h5]
      simp only [Option.bind_some]
      rw [k_di _ h4]
      simp only [Option.bind_some]
      by_cases d : j < n
      · have := hr.2.2.1 j h1 d
        unfold bDi at this
        rw [if_pos this, if_neg (by decide), l_1, nq_add]
        exact ih (j + 1) (by omega) (by omega) (by omega)
      · have := hr.2.2.2 (by omega)
        unfold bDi at this
        rw [show j = n by omega, if_neg this, if_pos n00]
        exact hb
theorem k_49 (fu : Nat) (hf : 20000 ≤ fu) {f : Nat → Int32} {b : Nat → Nat} {T e k s n : Nat} (hT : T ≤ 800) (hv : ∀ i, i < T → b i < 256 ∧ f i = nI (b i)) (h : TK b T e k s n) (kd ed : Int32) :
    J_X6_step_b49 fu 800 f (mkT (nI T) kd (nI s) ed) = some (mkT (nI T) (nI k) (nI s) (nI n)) := by
  obtain ⟨h1, hsT, h⟩ := h
  unfold J_X6_step_b49
  show (if nI s < nI T then _ else some (mkT (nI T) 0 (nI s) (nI s))) = _
  try simp (disch := first | omega | assumption) only [nq_le, nq_lt, nq_eq]
  by_cases c : s = T
  · rw [if_neg (by omega)]
    rcases h with ⟨a1, a2, a3⟩ | ⟨a1, _⟩ | ⟨a1, _⟩ | ⟨a1, _⟩
    · rw [a2, a3]; rfl
    all_goals omega
  · obtain ⟨h4, h5⟩ := hv s (by omega)
    rw [if_pos (by omega)]
    show ((J_X7_at 800 f (nI s)).bind fun z8 => (J_X6_isLetter z8).bind fun z10 => if z10 = 0 then
      (J_X7_at 800 f (nI s)).bind fun z13 => (J_X6_isDigit z13).bind fun z15 => if z15 = 0 then
        (J_X7_at 800 f (nI s)).bind fun z18 => if z18 = (59 : Int32) then J_X6_step_b146 fu 800 f (mkT (nI T) kd (nI s) (nI s)) (3 : Int32) else J_X6_step_b146 fu 800 f (mkT (nI T) kd (nI s) (nI s)) (4 : Int32)
        else (J_X6_readNumber fu (mkT (nI T) kd (nI s) (nI s)) 800 f).bind fun z21 => some z21
      else (J_X6_readWord fu (mkT (nI T) kd (nI s) (nI s)) 800 f).bind fun z23 => some z23) = _
    rw [at_F 800 f s (by omega) (by omega), h5]
    simp only [Option.bind_some]
    rw [k_le _ h4]
    simp only [Option.bind_some]
    rcases h with ⟨a1, a2, a3⟩ | ⟨a1, a2, a3, a4, a5, a6⟩ | ⟨a1, a2, a3, a4, a5, a6⟩ | ⟨a1, a2, a3, a4, a5⟩
    · omega
    · have e := k_rw_b fu hT hv a6 a5 kd (nI s) (fu + 1) s (Nat.le_refl _) (by omega) (by omega)
      unfold bLe at a2
      rw [if_pos a2, if_neg (by decide), show J_X6_readWord fu (mkT (nI T) kd (nI s) (nI s)) 800 f = J_X6_readWord_b0 fu 800 f (fu + 1) (mkT (nI T) kd (nI s) (nI s)) from rfl, e, a3]
      rfl
    · have e := k_rn_b fu hT hv a6 a5 a4 kd (fu + 1) s (Nat.le_refl _) (by omega) (by omega)
      unfold bDi at a2
      rw [if_neg (show ¬ (97 ≤ b s ∧ b s ≤ 122) by omega), if_pos n00, k_di _ h4]
      simp only [Option.bind_some]
      rw [if_pos a2, if_neg (by decide), show J_X6_readNumber fu (mkT (nI T) kd (nI s) (nI s)) 800 f = J_X6_readNumber_b0 fu 800 f (fu + 1) (mkT (nI T) kd (nI s) (nI s)) from rfl, e, a3]
      rfl
    · unfold bLe at a2
      unfold bDi at a3
      rw [if_neg a2, if_pos n00, k_di _ h4]
      simp only [Option.bind_some]
      rw [if_neg a3, if_pos n00]
      have q := (sb_tab _ h4).2.2.2.2.2
      unfold J_X6_step_b146
      by_cases c3 : b s = 59
      · rw [if_pos (q.mpr c3), a4, if_pos c3, a5, ← nq_add]
        rfl
      · rw [if_neg (fun x => c3 (q.mp x)), a4, if_neg c3, a5, ← nq_add]
        rfl
theorem k_st_b (fu : Nat) (hf : 20000 ≤ fu) {f : Nat → Int32} {b : Nat → Nat} {T e k s n : Nat} (hT : T ≤ 800) (hv : ∀ i, i < T → b i < 256 ∧ f i = nI (b i)) (h : TK b T e k s n) (kd ed : Int32) : ∀ m j, e ≤ j → j ≤ s → s < m + j →
    J_X6_step_b8 fu 800 f m (mkT (nI T) kd (nI j) ed) = some (mkT (nI T) (nI k) (nI s) (nI n)) := by
  intro m
  have hn := TK_n h
  induction m with
  | zero => intro j h1 h2 h3; omega
  | succ m ih =>
    intro j h1 h2 h3
    rw [J_X6_step_b8]
    show (if nI T ≤ nI j then J_X6_step_b49 fu 800 f (mkT (nI T) kd (nI j) ed) else _) = _
    try simp (disch := first | omega | assumption) only [nq_le, nq_lt, nq_eq]
    by_cases c : T ≤ j
    · rw [if_pos c, show j = s by omega]
      exact k_49 fu hf hT hv h kd ed
    · obtain ⟨h4, h5⟩ := hv j (by omega)
      rw [if_neg c]
      show ((J_X7_at 800 f (nI j)).bind fun z2 => (J_X6_isBlank z2).bind fun z4 => if z4 = 0 then J_X6_step_b49 fu 800 f (mkT (nI T) kd (nI j) ed) else J_X6_step_b8 fu 800 f m (mkT (nI T) kd (nI j + (1 : Int32)) ed)) = _
      rw [at_F 800 f j (by omega) (by omega), h5]
      simp only [Option.bind_some]
      rw [k_bl _ h4]
      simp only [Option.bind_some]
      by_cases d : j < s
      · have := h.1.2.2.1 j h1 d
        unfold bBl at this
        rw [if_pos this, if_neg (by decide), l_1, nq_add]
        exact ih (j + 1) (by omega) (by omega) (by omega)
      · have := h.1.2.2.2 (by omega)
        unfold bBl at this
        rw [show j = s by omega, if_neg this, if_pos n00]
        exact k_49 fu hf hT hv h kd ed
theorem k_step (fu : Nat) (hf : 20000 ≤ fu) {f : Nat → Int32} {b : Nat → Nat} {T e k s n : Nat} (hT : T ≤ 800) (hv : ∀ i, i < T → b i < 256 ∧ f i = nI (b i)) (h : TK b T e k s n) (kd st : Int32) :
    J_X6_step fu (mkT (nI T) kd st (nI e)) 800 f = some (mkT (nI T) (nI k) (nI s) (nI n)) := by
  have hn := TK_n h
  exact k_st_b fu hf hT hv h kd (nI e) fu e (Nat.le_refl _) (by omega) (by omega)
