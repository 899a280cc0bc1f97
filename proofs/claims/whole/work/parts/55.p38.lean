/-! words of the texts, both sides -/
def isW (b : Nat → Nat) (s n : Nat) (c : List Nat) : Prop := n - s = c.length ∧ ∀ i, i < c.length → b (s + i) = c.getD i 0
theorem tx_lt : ∀ s, s < 9 → ∀ k, k < 10 → (tx s).getD k 0 < 256 := by decide +kernel
theorem k_iw_b (fu : Nat) {f : Nat → Int32} {b : Nat → Nat} {T s n : Nat} (hT : T ≤ 800) (hv : ∀ i, i < T → b i < 256 ∧ f i = nI (b i)) (hn : n ≤ T) (c : Nat) (hc : c < 9) (hl : n - s = (tx c).length) (hsn : s ≤ n) (x y : Int32) : ∀ m j, j ≤ (tx c).length → (tx c).length < m + j → (∀ i, i < j → b (s + i) = (tx c).getD i 0) →
    ((∀ i, i < (tx c).length → b (s + i) = (tx c).getD i 0) → J_X6_isWord_b28 fu (mkT (nI T) x (nI s) y) c 800 f m (nI j) = some (nI 1)) ∧
    (¬ (∀ i, i < (tx c).length → b (s + i) = (tx c).getD i 0) → J_X6_isWord_b28 fu (mkT (nI T) x (nI s) y) c 800 f m (nI j) = some (nI 0)) := by
  intro m
  obtain ⟨e1, e2, e3⟩ := tx_all c hc
  induction m with
  | zero => intro j h1 h2; omega
  | succ m ih =>
    intro j h1 h2 h3
    by_cases d : j = (tx c).length
    · have e : J_X6_isWord_b28 fu (mkT (nI T) x (nI s) y) c 800 f (m + 1) (nI j) = some (nI 1) := by
        rw [J_X6_isWord_b28, e1, if_pos (by rw [nq_le _ _ (by omega) (by omega)]; omega)]
        rfl
      rw [d] at h3
      exact ⟨fun _ => e, fun h => absurd h3 h⟩
    · obtain ⟨h4, h5⟩ := hv (s + j) (by omega)
      have h6 := tx_lt c hc j (by omega)
      have e4 := (tx_chr c hc j (by omega)).resolve_left (by omega)
      have e : J_X6_isWord_b28 fu (mkT (nI T) x (nI s) y) c 800 f (m + 1) (nI j) = if nI (b (s + j)) = nI ((tx c).getD j 0) then J_X6_isWord_b28 fu (mkT (nI T) x (nI s) y) c 800 f m (nI (j + 1)) else some (0 : Int32) := by
        rw [J_X6_isWord_b28, e1, if_neg (by rw [nq_le _ _ (by omega) (by omega)]; omega), e4]
        show ((J_X7_at 800 f (nI s + nI j)).bind fun z4 => if z4 = nI ((tx c).getD j 0) then J_X6_isWord_b28 fu (mkT (nI T) x (nI s) y) c 800 f m (nI j + 1) else some (0 : Int32)) = _
        rw [nq_add, at_F 800 f (s + j) (by omega) (by omega), h5, l_1, nq_add]
        rfl
      rw [e]
      by_cases q : b (s + j) = (tx c).getD j 0
      · rw [if_pos (by rw [q])]
        refine ih (j + 1) (by omega) (by omega) fun i hi => ?_
        by_cases w : i = j
        · rw [w]; exact q
        · exact h3 i (by omega)
      · rw [if_neg (by rw [nq_eq _ _ (by omega) (by omega)]; exact q)]
        exact ⟨fun h => absurd (h j (by omega)) q, fun _ => rfl⟩
theorem k_isWord (fu : Nat) (hf : 20000 ≤ fu) {f : Nat → Int32} {b : Nat → Nat} {T e k s n : Nat} (hT : T ≤ 800) (hv : ∀ i, i < T → b i < 256 ∧ f i = nI (b i)) (h : TK b T e k s n) (c : Nat) (hc : c < 9) :
    (k = 1 ∧ isW b s n (tx c) → J_X6_isWord fu (mkT (nI T) (nI k) (nI s) (nI n)) c 800 f = some (nI 1)) ∧
    (¬ (k = 1 ∧ isW b s n (tx c)) → J_X6_isWord fu (mkT (nI T) (nI k) (nI s) (nI n)) c 800 f = some (nI 0)) := by
  have hn := TK_n h
  obtain ⟨e1, e2, e3⟩ := tx_all c hc
  have e : J_X6_isWord fu (mkT (nI T) (nI k) (nI s) (nI n)) c 800 f = if nI k = (1 : Int32) then (if nI n - nI s = j_len c then J_X6_isWord_b28 fu (mkT (nI T) (nI k) (nI s) (nI n)) c 800 f fu (nI 0) else some (0 : Int32)) else some (0 : Int32) := rfl
  rw [e, e1, nq_sub _ _ hn.2.2.1]
  by_cases c1 : k = 1
  · by_cases c2 : n - s = (tx c).length
    · have a := k_iw_b fu hT hv hn.2.2.2.1 c hc c2 hn.2.2.1 (nI k) (nI n) fu 0 (by omega) (by omega) (fun i hi => by omega)
      rw [if_pos (by rw [c1]; rfl), if_pos (by rw [c2])]
      exact ⟨fun h => a.1 h.2.2, fun h => a.2 fun x => h ⟨c1, c2, x⟩⟩
    · rw [if_pos (by rw [c1]; rfl), if_neg (by rw [nq_eq _ _ (by omega) (by omega)]; exact c2)]
      exact ⟨fun h => absurd h.2.1 c2, fun _ => rfl⟩
  · rw [if_neg (by rw [l_1, nq_eq _ _ (by omega) (by omega)]; exact c1)]
    exact ⟨fun h => absurd h.1 c1, fun _ => rfl⟩
theorem wN_inj {b b' : Nat → Nat} {s s' : Nat} : ∀ m j, (∀ i, i < m → 97 ≤ b (s + i) ∧ b (s + i) ≤ 122) → (∀ i, i < j → 97 ≤ b' (s' + i) ∧ b' (s' + i) ≤ 122) → wN b s m = wN b' s' j → m = j ∧ ∀ i, i < m → b (s + i) = b' (s' + i) := by
  intro m
  induction m with
  | zero =>
    intro j h1 h2 h3
    cases j with
    | zero => exact ⟨rfl, fun i hi => by omega⟩
    | succ j =>
      have := h2 j (by omega)
      rw [show wN b s 0 = 0 from rfl, show wN b' s' (j + 1) = 32 * wN b' s' j + (b' (s' + j) - 96) from rfl] at h3
      omega
  | succ m ih =>
    intro j h1 h2 h3
    have a1 := h1 m (by omega)
    rw [show wN b s (m + 1) = 32 * wN b s m + (b (s + m) - 96) from rfl] at h3
    cases j with
    | zero =>
      rw [show wN b' s' 0 = 0 from rfl] at h3
      omega
    | succ j =>
      have a2 := h2 j (by omega)
      rw [show wN b' s' (j + 1) = 32 * wN b' s' j + (b' (s' + j) - 96) from rfl] at h3
      obtain ⟨c1, c2⟩ := ih j (fun i hi => h1 i (by omega)) (fun i hi => h2 i (by omega)) (by omega)
      refine ⟨by omega, fun i hi => ?_⟩
      by_cases d : i = m
      · rw [d, c1]
        rw [c1] at h3 a1
        omega
      · exact c2 i (by omega)
theorem wN_lt (b : Nat → Nat) (s : Nat) (h : ∀ i, b (s + i) ≤ 122 ∨ True) : ∀ m, (∀ i, i < m → b (s + i) ≤ 122) → wN b s m < 32 ^ m := by
  intro m
  induction m with
  | zero => intro _; exact Nat.zero_lt_one
  | succ m ih =>
    intro h1
    have a1 := ih fun i hi => h1 i (by omega)
    have a2 := h1 m (by omega)
    rw [show wN b s (m + 1) = 32 * wN b s m + (b (s + m) - 96) from rfl, Nat.pow_succ]
    omega
theorem p32 (m : Nat) (h : m ≤ 7) : 32 ^ m ≤ 34359738368 := Nat.pow_le_pow_right (by omega) h
def kyN (c : Nat) : Nat := wN (fun i => (tx c).getD i 0) 0 (tx c).length
theorem ky_tab : ∀ c, c < 5 → 3 ≤ (tx c).length ∧ (tx c).length ≤ 7 ∧ 0 < kyN c ∧ kyN c < 34359738368 ∧ ∀ i, i < 8 → (tx c).length ≤ i ∨ (97 ≤ (tx c).getD i 0 ∧ (tx c).getD i 0 ≤ 122) := by decide +kernel
theorem lg_eq (x y : Int64) : lg_cmp x y = 0 ↔ x = y := by
  unfold lg_cmp
  by_cases c : x > y
  · rw [if_pos c]
    refine ⟨fun h => absurd h (by decide), fun h => ?_⟩
    rw [h] at c
    have := Int64.lt_iff_toInt_lt.mp c
    omega
  · rw [if_neg c]
    by_cases d : x = y
    · rw [if_pos d]; exact ⟨fun _ => d, fun _ => rfl⟩
    · rw [if_neg d]; exact ⟨fun h => absurd h (by decide), fun h => absurd h d⟩
theorem m_isKey {b : Nat → Nat} {T e k s n : Nat} (h : TK b T e k s n) (word : Int64) (lt nm : Int32) (hm : TKM b k s n word lt nm) (c : Nat) (hc : c < 5) (K : Int64) (hK : K = lI (kyN c)) :
    (k = 1 ∧ isW b s n (tx c) → J_X8_isKey (nI k) word (nI 1) K = some (nI 1)) ∧ (¬ (k = 1 ∧ isW b s n (tx c)) → J_X8_isKey (nI k) word (nI 1) K = some (nI 0)) := by
  have hn := TK_n h
  obtain ⟨t1, t2, t3, t4, t5⟩ := ky_tab c hc
  unfold J_X8_isKey
  rw [if_neg (show ¬ (nI 1 = 0) by decide)]
  by_cases c1 : k = 1
  · subst c1
    obtain ⟨q1, q2, q3, q4⟩ := TK_1 h
    rw [if_pos (show nI 1 = (1 : Int32) from rfl), (hm.1 rfl).1, hK]
    have hlet : ∀ i, i < n - s → 97 ≤ b (s + i) ∧ b (s + i) ≤ 122 := fun i hi => q4 (s + i) (by omega) (by omega)
    have hlet2 : ∀ i, i < (tx c).length → 97 ≤ (fun i => (tx c).getD i 0) (0 + i) ∧ (fun i => (tx c).getD i 0) (0 + i) ≤ 122 := fun i hi => by
      show 97 ≤ (tx c).getD (0 + i) 0 ∧ (tx c).getD (0 + i) 0 ≤ 122
      rw [Nat.zero_add]
      exact (t5 i (by omega)).resolve_left (by omega)
    have main : wI b s (n - s) = lI (kyN c) ↔ isW b s n (tx c) := by
      unfold wI
      by_cases d : n - s ≤ 7
      · rw [if_pos d]
        have w1 := wN_lt b s (fun _ => .inr trivial) (n - s) fun i hi => (hlet i hi).2
        have w2 := p32 (n - s) d
        constructor
        · intro e
          have e2 := lI_inj _ _ (by omega) (by omega) e
          obtain ⟨e3, e4⟩ := wN_inj (n - s) (tx c).length hlet hlet2 e2
          refine ⟨e3, fun i hi => ?_⟩
          have := e4 i (by omega)
          rw [this]
          show (tx c).getD (0 + i) 0 = _
          rw [Nat.zero_add]
        · intro e
          have : ∀ j, j ≤ (tx c).length → wN b s j = wN (fun i => (tx c).getD i 0) 0 j := by
            intro j
            induction j with
            | zero => intro _; rfl
            | succ j ih =>
              intro hj
              show 32 * wN b s j + (b (s + j) - 96) = 32 * wN (fun i => (tx c).getD i 0) 0 j + ((tx c).getD (0 + j) 0 - 96)
              rw [ih (by omega), e.2 j (by omega), Nat.zero_add]
          rw [e.1, this _ (Nat.le_refl _)]
          rfl
      · rw [if_neg d]
        constructor
        · intro e
          have := lI_inj _ _ (by omega) (by omega) e
          omega
        · intro e
          have := e.1
          omega
    by_cases d : isW b s n (tx c)
    · rw [if_pos ((lg_eq _ _).mpr (main.mpr d))]
      exact ⟨fun _ => rfl, fun h => absurd ⟨rfl, d⟩ h⟩
    · rw [if_neg (fun x => d (main.mp ((lg_eq _ _).mp x)))]
      exact ⟨fun h => absurd h.2 d, fun _ => rfl⟩
  · rw [if_neg (by rw [l_1, nq_eq _ _ (by omega) (by omega)]; exact c1)]
    exact ⟨fun h => absurd h.1 c1, fun _ => rfl⟩
theorem isW_ne {b : Nat → Nat} {s n : Nat} {c d : List Nat} (h : isW b s n c) (h' : isW b s n d) (i : Nat) (hi : i < c.length) (hj : i < d.length) : c.getD i 0 = d.getD i 0 := by
  rw [← h.2 i hi, ← h'.2 i hj]
theorem k_pn (fu : Nat) (hf : 20000 ≤ fu) {f : Nat → Int32} {b : Nat → Nat} {T e k s n : Nat} (hT : T ≤ 800) (hv : ∀ i, i < T → b i < 256 ∧ f i = nI (b i)) (h : TK b T e k s n) (word : Int64) (lt nm : Int32) (hm : TKM b k s n word lt nm) :
    ∃ r, (r = 4294967295 ∨ r ≤ 2) ∧ J_X4_policyNamed fu (mkT (nI T) (nI k) (nI s) (nI n)) 800 f = some (nI r) ∧ J_X8_policyWord (nI k) word (nI 1) = some (nI r) := by
  have w0 := k_isWord fu hf hT hv h 0 (by omega)
  have w1 := k_isWord fu hf hT hv h 1 (by omega)
  have w2 := k_isWord fu hf hT hv h 2 (by omega)
  have u0 := m_isKey h word lt nm hm 0 (by omega) (220370757 : Int64) (by decide +kernel)
  have u1 := m_isKey h word lt nm hm 1 (by omega) (19057844 : Int64) (by decide +kernel)
  have u2 := m_isKey h word lt nm hm 2 (by omega) (24170600 : Int64) (by decide +kernel)
  have n0 : J_X7_nameOfPolicy (nI 0) = some 0 := by decide
  have n1 : J_X7_nameOfPolicy (nI 1) = some 1 := by decide
  have n2 : J_X7_nameOfPolicy (nI 2) = some 2 := by decide
  have B : ∀ m, 4 ≤ m → ∃ r, (r = 4294967295 ∨ r ≤ 2) ∧ J_X4_policyNamed_b2 fu (mkT (nI T) (nI k) (nI s) (nI n)) 800 f m (nI 0) = some (nI r) ∧ J_X8_policyWord (nI k) word (nI 1) = some (nI r) := by
    intro m hm4
    obtain ⟨m, rfl⟩ : ∃ j, m = j + 4 := ⟨m - 4, by omega⟩
    unfold J_X8_policyWord
    rw [J_X4_policyNamed_b2, if_neg (by decide), n0]
    simp only [Option.bind_some]
    by_cases c0 : k = 1 ∧ isW b s n (tx 0)
    · rw [w0.1 c0, u0.1 c0]
      exact ⟨0, .inr (by omega), rfl, rfl⟩
    · rw [w0.2 c0, u0.2 c0]
      simp only [Option.bind_some]
      rw [if_pos n00, if_pos n00, show nI 0 + (1 : Int32) = nI 1 from by decide, J_X4_policyNamed_b2, if_neg (by decide), n1]
      simp only [Option.bind_some]
      by_cases c1 : k = 1 ∧ isW b s n (tx 1)
      · rw [w1.1 c1, u1.1 c1]
        exact ⟨1, .inr (by omega), rfl, rfl⟩
      · rw [w1.2 c1, u1.2 c1]
        simp only [Option.bind_some]
        rw [if_pos n00, if_pos n00, show nI 1 + (1 : Int32) = nI 2 from by decide, J_X4_policyNamed_b2, if_neg (by decide), n2]
        simp only [Option.bind_some]
        by_cases c2 : k = 1 ∧ isW b s n (tx 2)
        · rw [w2.1 c2, u2.1 c2]
          exact ⟨2, .inr (by omega), rfl, rfl⟩
        · rw [w2.2 c2, u2.2 c2]
          simp only [Option.bind_some]
          rw [if_pos n00, if_pos n00, show nI 2 + (1 : Int32) = nI 3 from by decide, J_X4_policyNamed_b2, if_pos (by decide), neg1]
          exact ⟨4294967295, .inl rfl, rfl, rfl⟩
  exact B fu (by omega)
/-! letters behind the numbers of the encoder -/
def gEl (g : Nat → Nat) (sy : Nat → Nat) : Nat → (Nat → Nat)
| 0 => g
| k + 1 => gEn (gEl g sy k) (sy k)
theorem gEl_ok {g : Nat → Nat} (hg : GOOD g) (sy : Nat → Nat) (c : Nat) (hs : ∀ i, i < c → sy i < g 0) (h6 : g 6 + c ≤ 400) : ∀ k, k ≤ c → GOOD (gEl g sy k) ∧ gEl g sy k 6 = g 6 + k ∧ gEl g sy k 0 = g 0 := by
  intro k
  induction k with
  | zero => intro _; exact ⟨hg, rfl, rfl⟩
  | succ k ih =>
    intro hk
    obtain ⟨a1, a2, a3⟩ := ih (by omega)
    have hs := hs k (by omega)
    have w := WB_En a1.1 (show gEl g sy k 6 < 400 by omega) (show sy k < gEl g sy k 0 by omega)
    have s := SY_En a1.1 a1.2 (show gEl g sy k 6 < 400 by omega) (show sy k < gEl g sy k 0 by omega)
    refine ⟨⟨w.1, s⟩, ?_, ?_⟩
    · show gEn (gEl g sy k) (sy k) 6 = _
      rw [w.2.1]; omega
    · show gEn (gEl g sy k) (sy k) 0 = _
      rw [w.2.2, a3]
theorem gEl_congr (g : Nat → Nat) {sy sy' : Nat → Nat} : ∀ k, (∀ i, i < k → sy' i = sy i) → gEl g sy' k = gEl g sy k := by
  intro k
  induction k with
  | zero => intro _; rfl
  | succ k ih =>
    intro h
    show gEn (gEl g sy' k) (sy' k) = gEn (gEl g sy k) (sy k)
    rw [ih fun i hi => h i (by omega), h k (by omega)]
def syX (sy : Nat → Nat) (c : Nat) (b : Nat → Nat) (s : Nat) : Nat → Nat := fun i => if i < c then sy i else b (s + (i - c)) - 97
theorem gEt_gEl (g sy : Nat → Nat) (c : Nat) (b : Nat → Nat) (s : Nat) : ∀ m, gEt (gEl g sy c) b s m = gEl g (syX sy c b s) (c + m) := by
  intro m
  induction m with
  | zero =>
    show gEl g sy c = gEl g (syX sy c b s) c
    exact (gEl_congr g c fun i hi => if_pos hi).symm
  | succ m ih =>
    show gEn (gEt (gEl g sy c) b s m) (b (s + m) - 97) = gEn (gEl g (syX sy c b s) (c + m)) (syX sy c b s (c + m))
    rw [ih]
    have : syX sy c b s (c + m) = b (s + m) - 97 := by
      show (if c + m < c then sy (c + m) else b (s + (c + m - c)) - 97) = _
      rw [if_neg (by omega), Nat.add_sub_cancel_left]
    rw [this]
