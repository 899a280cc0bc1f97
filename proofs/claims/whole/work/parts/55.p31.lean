/-! letters of the tape, both sides; the tape encoded -/
theorem lt97 : ∀ b, b < 97 → nI b - nI 97 < 0 ∧ sb b - nI 97 < 0 := by decide +kernel
theorem ge128 : ∀ b, b < 256 → b < 128 ∨ sb b - nI 97 < 0 := by decide +kernel
theorem ltr (b z : Nat) (hb : b < 256) (hz : z ≤ 26) :
    (97 ≤ b ∧ b < 97 + z ∧ sb b - nI 97 = nI (b - 97) ∧ nI b - nI 97 = nI (b - 97)) ∨
    (¬ (97 ≤ b ∧ b < 97 + z) ∧ (sb b - nI 97 < 0 ∨ ∃ s, z ≤ s ∧ s < 1000 ∧ sb b - nI 97 = nI s) ∧ (nI b - nI 97 < 0 ∨ ∃ s, z ≤ s ∧ s < 1000 ∧ nI b - nI 97 = nI s)) := by
  by_cases c1 : b < 97
  · exact .inr ⟨by omega, .inl (lt97 b c1).2, .inl (lt97 b c1).1⟩
  · have e1 := nq_sub b 97 (by omega)
    by_cases c2 : b < 128
    · have e2 : sb b = nI b := if_pos c2
      by_cases c3 : b < 97 + z
      · exact .inl ⟨by omega, c3, by rw [e2, e1], e1⟩
      · exact .inr ⟨by omega, .inr ⟨b - 97, by omega, by omega, by rw [e2, e1]⟩, .inr ⟨b - 97, by omega, by omega, e1⟩⟩
    · exact .inr ⟨by omega, .inl ((ge128 b hb).resolve_left c2), .inr ⟨b - 97, by omega, by omega, e1⟩⟩
def LT (b : Nat → Nat) (z i : Nat) : Prop := 97 ≤ b i ∧ b i < 97 + z
theorem m_isLetter (g : Nat → Nat) (h0 : g 0 ≤ 26) (h2 : 1 ≤ g 0) (b : Nat → Nat) (i : Nat) (hb : b i < 256) :
    (LT b (g 0) i → J_X8_isLetter (nW g) (sb (b i)) = some (nI 1)) ∧ (¬ LT b (g 0) i → J_X8_isLetter (nW g) (sb (b i)) = some (nI 0)) := by
  unfold J_X8_isLetter LT
  rw [l_97]
  rcases ltr (b i) (g 0) hb h0 with ⟨a1, a2, a3, a4⟩ | ⟨a1, a2, a3⟩
  · refine ⟨fun _ => ?_, fun h => absurd ⟨a1, a2⟩ h⟩
    rw [a3, m_isSymbol g h0 h2 _ (by omega), if_pos (show b i - 97 < g 0 by omega)]
    show (if nI 1 &&& 1 = nI 1 then some (nI 1) else none) = _
    exact if_pos (and1 1 (by omega))
  · refine ⟨fun h => absurd h a1, fun _ => ?_⟩
    have e : J_X8_isSymbol (nW g) (sb (b i) - nI 97) = some (nI 0) := by
      rcases a2 with h | ⟨s, h3, h4, h5⟩
      · exact m_isSymbolN g _ h
      · rw [h5, m_isSymbol g h0 h2 _ (by omega), if_neg (by omega)]
    rw [e]
    show (if nI 0 &&& 1 = nI 0 then some (nI 0) else none) = _
    exact if_pos (and1 0 (by omega))
theorem k_isLetter {ee : ES} {g : Nat → Nat} (hda : d_alphabet (e_d ee) = nI (g 0)) (h0 : g 0 ≤ 26) (b : Nat → Nat) (i : Nat) (hb : b i < 256) :
    (LT b (g 0) i → nI (b i) - nI 97 = nI (b i - 97) ∧ J_X7_isSymbol ee (nI (b i) - nI 97) = some (nI 1)) ∧ (¬ LT b (g 0) i → J_X7_isSymbol ee (nI (b i) - nI 97) = some (nI 0)) := by
  unfold J_X7_isSymbol LT
  rw [hda]
  rcases ltr (b i) (g 0) hb h0 with ⟨a1, a2, a3, a4⟩ | ⟨a1, a2, a3⟩
  · refine ⟨fun _ => ⟨a4, ?_⟩, fun h => absurd ⟨a1, a2⟩ h⟩
    rw [a4, l_0]
    try simp (disch := first | omega | assumption) only [nq_le, nq_lt, nq_eq]
    rw [if_neg (by omega)]
    try simp (disch := first | omega | assumption) only [nq_le, nq_lt, nq_eq]
    rw [if_neg (by omega), l_1]
  · refine ⟨fun h => absurd h a1, fun _ => ?_⟩
    rcases a3 with h | ⟨s, h3, h4, h5⟩
    · exact if_pos h
    · rw [h5, l_0]
      try simp (disch := first | omega | assumption) only [nq_le, nq_lt, nq_eq]
      rw [if_neg (by omega)]
      try simp (disch := first | omega | assumption) only [nq_le, nq_lt, nq_eq]
      rw [if_pos h3]
theorem m_al_0 (fu : Nat) (v : Nat → Int32) (g : Nat → Nat) (a len k n : Nat) : J_X8_areLetters_b5 fu v (nW g) (n + 1) (nI a) (nI len) (nI 0) (nI k) = some (nI 0) := by
  unfold J_X8_areLetters_b5
  by_cases c : nI len ≤ nI k
  · rw [if_pos c]; exact if_pos (and1 0 (by omega))
  · rw [if_neg c, if_pos (show nI 0 = (0 : Int32) from rfl)]; exact if_pos (and1 0 (by omega))
theorem m_al_b (fu : Nat) (v : Nat → Int32) (g : Nat → Nat) (h0 : g 0 ≤ 26) (h2 : 1 ≤ g 0) (b : Nat → Nat) (a len : Nat) (hl : a + len ≤ 800) (hv : ∀ k, k < len → b (a + k) < 256 ∧ v (a + k) = sb (b (a + k))) : ∀ n k, k ≤ len → len < n + k → (∀ j, j < k → LT b (g 0) (a + j)) →
    ((∀ j, j < len → LT b (g 0) (a + j)) → J_X8_areLetters_b5 fu v (nW g) n (nI a) (nI len) (nI 1) (nI k) = some (nI 1)) ∧
    (¬ (∀ j, j < len → LT b (g 0) (a + j)) → J_X8_areLetters_b5 fu v (nW g) n (nI a) (nI len) (nI 1) (nI k) = some (nI 0)) := by
  intro n
  induction n with
  | zero => intro k k1 k2; omega
  | succ n ih =>
    intro k k1 k2 k3
    by_cases c : k = len
    · subst c
      refine ⟨fun _ => ?_, fun h => absurd k3 h⟩
      unfold J_X8_areLetters_b5
      rw [if_pos (by rw [nq_le _ _ (by omega) (by omega)]; omega)]
      exact if_pos (and1 1 (by omega))
    · have hvk := hv k (by omega)
      have hm := m_isLetter g h0 h2 b (a + k) hvk.1
      have e : ∀ q, J_X8_isLetter (nW g) (sb (b (a + k))) = some (nI q) → J_X8_areLetters_b5 fu v (nW g) (n + 1) (nI a) (nI len) (nI 1) (nI k) = J_X8_areLetters_b5 fu v (nW g) n (nI a) (nI len) (nI q) (nI (k + 1)) := by
        intro q hq
        rw [J_X8_areLetters_b5]
        rw [if_neg (by rw [nq_le _ _ (by omega) (by omega)]; omega), if_neg (by decide), nq_add, rd_F 800 v (a + k) (by omega) (by omega), hvk.2]
        simp only [Option.bind_some, l_1, nq_add]
        rw [hq]
        rfl
      by_cases d : LT b (g 0) (a + k)
      · rw [e 1 (hm.1 d)]
        refine ih (k + 1) (by omega) (by omega) fun j hj => ?_
        by_cases q : j = k
        · rw [q]; exact d
        · exact k3 j (by omega)
      · rw [e 0 (hm.2 d)]
        refine ⟨fun h => absurd (h k (by omega)) d, fun _ => ?_⟩
        cases n with
        | zero => omega
        | succ n => exact m_al_0 fu v g a len (k + 1) n
theorem m_areLetters (fu : Nat) (hf : 20000 ≤ fu) (v : Nat → Int32) (g : Nat → Nat) (h0 : g 0 ≤ 26) (h2 : 1 ≤ g 0) (b : Nat → Nat) (a len : Nat) (hl : a + len ≤ 800) (hv : ∀ k, k < len → b (a + k) < 256 ∧ v (a + k) = sb (b (a + k))) :
    ((∀ j, j < len → LT b (g 0) (a + j)) → J_X8_areLetters fu v (nW g) (nI a) (nI len) = some (nI 1)) ∧
    (¬ (∀ j, j < len → LT b (g 0) (a + j)) → J_X8_areLetters fu v (nW g) (nI a) (nI len) = some (nI 0)) :=
  m_al_b fu v g h0 h2 b a len hl hv fu 0 (by omega) (by omega) (fun j hj => by omega)
theorem gEn_7 {g : Nat → Nat} (hg : GOOD g) (h6 : g 6 < 400) (s : Nat) : g 7 ≤ gEn g s 7 := by
  rw [gEn_eq]
  have t7 := gS_at g s 7 (by omega) (by omega)
  by_cases d1 : g 5 = 0
  · rw [if_pos d1, nS_ne _ _ _ _ (by omega)]; omega
  · rw [if_neg d1]
    by_cases d2 : gk g (g 5 - 1) s = 4294967295
    · have m1 := gS_MB hg.1.1 h6 s
      rw [if_pos d2, (gEP_at (gS g s) (g 5 - 1) s m1.2.1 m1.1.1.2.2.2.1).2.1]; omega
    · rw [if_neg d2, nS_ne _ _ _ _ (by omega)]; omega
/-- the numbers behind so many letters of the tape -/
def gEt (g : Nat → Nat) (b : Nat → Nat) (a : Nat) : Nat → (Nat → Nat)
| 0 => g
| k + 1 => gEn (gEt g b a k) (b (a + k) - 97)
theorem gEt_ok {g : Nat → Nat} (hg : GOOD g) (b : Nat → Nat) (a len : Nat) (hl : ∀ j, j < len → LT b (g 0) (a + j)) (h6 : g 6 + len ≤ 400) : ∀ k, k ≤ len → GOOD (gEt g b a k) ∧ gEt g b a k 6 = g 6 + k ∧ gEt g b a k 0 = g 0 ∧ g 7 ≤ gEt g b a k 7 := by
  intro k
  induction k with
  | zero => intro _; exact ⟨hg, rfl, rfl, Nat.le_refl _⟩
  | succ k ih =>
    intro hk
    obtain ⟨a1, a2, a3, a4⟩ := ih (by omega)
    have hs := hl k (by omega)
    unfold LT at hs
    have w := WB_En a1.1 (show gEt g b a k 6 < 400 by omega) (show b (a + k) - 97 < gEt g b a k 0 by omega)
    have s := SY_En a1.1 a1.2 (show gEt g b a k 6 < 400 by omega) (show b (a + k) - 97 < gEt g b a k 0 by omega)
    have h7 := gEn_7 a1 (show gEt g b a k 6 < 400 by omega) (b (a + k) - 97)
    refine ⟨⟨w.1, s⟩, ?_, ?_, ?_⟩
    · show gEn (gEt g b a k) (b (a + k) - 97) 6 = _
      rw [w.2.1]; omega
    · show gEn (gEt g b a k) (b (a + k) - 97) 0 = _
      rw [w.2.2, a3]
    · show g 7 ≤ gEn (gEt g b a k) (b (a + k) - 97) 7
      omega
theorem m_et_b (fu : Nat) (hf : 20000 ≤ fu) {g : Nat → Nat} (hg : GOOD g) (v : Nat → Int32) (b : Nat → Nat) (a len : Nat) (hl : ∀ j, j < len → LT b (g 0) (a + j)) (h6 : g 6 + len ≤ 400) (hal : a + len ≤ 800) (hv : ∀ k, k < len → b (a + k) < 256 ∧ v (a + k) = sb (b (a + k))) : ∀ n k, k ≤ len → len < n + k →
    J_X8_encodesTape_b2 fu v n (nW (gEt g b a k)) (nI a) (nI len) (nI k) = some (nW (gEt g b a len)) := by
  intro n
  have h0 := (SET_of hg.1)
  unfold SET at h0
  induction n with
  | zero => intro k h1 h2; omega
  | succ n ih =>
    intro k h1 h2
    unfold J_X8_encodesTape_b2
    try simp (disch := first | omega | assumption) only [nq_le, nq_lt, nq_eq]
    by_cases c : k = len
    · subst c
      rw [if_pos (Nat.le_refl _)]
    · rw [if_neg (by omega), nq_add, rd_F 800 v (a + k) (by omega) (by omega), (hv k (by omega)).2]
      obtain ⟨a1, a2, a3, a4⟩ := gEt_ok hg b a len hl h6 k h1
      have hs := hl k (by omega)
      unfold LT at hs
      have e : sb (b (a + k)) - (97 : Int32) = nI (b (a + k) - 97) := by
        rcases ltr (b (a + k)) (g 0) (hv k (by omega)).1 (by omega) with ⟨_, _, q, _⟩ | ⟨q, _⟩
        · exact q
        · exact absurd hs q
      simp only [Option.bind_some]
      rw [e, m_encodes fu (by omega) _ a1.1 (by omega) _ (by omega)]
      simp only [Option.bind_some, l_1, nq_add]
      exact ih (k + 1) (by omega) (by omega)
theorem m_encodesTape (fu : Nat) (hf : 20000 ≤ fu) {g : Nat → Nat} (hg : GOOD g) (v : Nat → Int32) (b : Nat → Nat) (a len : Nat) (hl : ∀ j, j < len → LT b (g 0) (a + j)) (h6 : g 6 + len ≤ 400) (hal : a + len ≤ 800) (hv : ∀ k, k < len → b (a + k) < 256 ∧ v (a + k) = sb (b (a + k))) :
    J_X8_encodesTape fu v (nW g) (nI a) (nI len) = some (nW (gEt g b a len)) :=
  m_et_b fu hf hg v b a len hl h6 hal hv fu 0 (by omega) (by omega)
theorem k_et_b (fu : Nat) (hf : 20000 ≤ fu) {g : Nat → Nat} (hg : GOOD g) (f f_dec : Nat → Int32) (oo : OS) (tt : TS) (rr : RS) (sw : SS) (hh : HS) (b : Nat → Nat) (len : Nat) (hl : ∀ j, j < len → LT b (g 0) (0 + j)) (h6 : g 6 + len ≤ 400) (hal : len ≤ 800) (hv : ∀ k, k < len → b k < 256 ∧ f k = nI (b k)) : ∀ n k ee, k ≤ len → len < n + k → RE ee (gEt g b 0 k) →
    ∃ ee', J_X7_encodeTape_b87 fu f f_dec oo tt rr sw n (nI len) ee hh (nI (gEt g b 0 k 7 - g 7)) (nI k) = some (.inl (nI (gEt g b 0 len 7 - g 7)), nI 0, ee', hh) ∧ RE ee' (gEt g b 0 len) := by
  intro n
  have h0 := (SET_of hg.1)
  unfold SET at h0
  induction n with
  | zero => intro k ee h1 h2; omega
  | succ n ih =>
    intro k ee h1 h2 he
    unfold J_X7_encodeTape_b87
    try simp (disch := first | omega | assumption) only [nq_le, nq_lt, nq_eq]
    by_cases c : k = len
    · subst c
      rw [if_pos (Nat.le_refl _)]
      exact ⟨ee, rfl, he⟩
    · rw [if_neg (by omega), at_F 800 f k (by omega) (by omega), (hv k (by omega)).2]
      obtain ⟨a1, a2, a3, a4⟩ := gEt_ok hg b 0 len hl h6 k h1
      have hs := hl k (by omega)
      rw [Nat.zero_add] at hs
      unfold LT at hs
      have e : nI (b k) - (97 : Int32) = nI (b k - 97) := nq_sub (b k) 97 (by omega)
      obtain ⟨e', b1, b2⟩ := k_take fu (by omega) he a1.1 (by omega) (show b k - 97 < gEt g b 0 k 0 by omega)
      have hst : gEn (gEt g b 0 k) (b k - 97) = gEt g b 0 (k + 1) := by
        show _ = gEn (gEt g b 0 k) (b (0 + k) - 97)
        rw [Nat.zero_add]
      rw [hst] at b1 b2
      obtain ⟨c1, c2, c3, c4⟩ := gEt_ok hg b 0 len hl h6 (k + 1) (by omega)
      have c5 : gEt g b 0 k 7 ≤ gEt g b 0 (k + 1) 7 := by
        rw [← hst]
        exact gEn_7 a1 (by omega) _
      obtain ⟨ee', d1, d2⟩ := ih (k + 1) e' (by omega) (by omega) b2
      refine ⟨ee', ?_, d2⟩
      simp only [Option.bind_some]
      rw [e, b1]
      simp only [Option.bind_some, l_1, nq_add]
      rw [show gEt g b 0 k 7 - g 7 + (gEt g b 0 (k + 1) 7 - gEt g b 0 k 7) = gEt g b 0 (k + 1) 7 - g 7 by omega]
      exact d1
theorem k_ec_b (fu : Nat) {g : Nat → Nat} (h0 : g 0 ≤ 26) (f f_dec : Nat → Int32) (oo : OS) (tt : TS) (rr : RS) (sw : SS) (hh : HS) (ee : ES) (hda : d_alphabet (e_d ee) = nI (g 0)) (b : Nat → Nat) (len : Nat) (hal : len ≤ 800) (hv : ∀ k, k < len → b k < 256 ∧ f k = nI (b k)) : ∀ n k, k ≤ len → len < n + k → (∀ j, j < k → LT b (g 0) j) →
    (¬ (∀ j, j < len → LT b (g 0) j) → J_X7_encodeTape_b2 fu f f_dec oo tt rr sw n (nI len) ee hh (nI k) = some (.inr "java/lang/IllegalArgumentException", nI len, ee, hh)) ∧
    ((∀ j, j < len → LT b (g 0) j) → ∃ m, J_X7_encodeTape_b2 fu f f_dec oo tt rr sw n (nI len) ee hh (nI k) = J_X7_encodeTape_b2 fu f f_dec oo tt rr sw (m + 1) (nI len) ee hh (nI len)) := by
  intro n
  induction n with
  | zero => intro k h1 h2; omega
  | succ n ih =>
    intro k h1 h2 h3
    by_cases c : k = len
    · subst c
      exact ⟨fun h => absurd h3 h, fun _ => ⟨n, rfl⟩⟩
    · have hvk := hv k (by omega)
      have hm := k_isLetter (ee := ee) (g := g) hda h0 b k hvk.1
      have e : ∀ q, J_X7_isSymbol ee (nI (b k) - nI 97) = some (nI q) → J_X7_encodeTape_b2 fu f f_dec oo tt rr sw (n + 1) (nI len) ee hh (nI k) = if nI q = 0 then some (.inr "java/lang/IllegalArgumentException", nI len, ee, hh) else J_X7_encodeTape_b2 fu f f_dec oo tt rr sw n (nI len) ee hh (nI (k + 1)) := by
        intro q hq
        rw [J_X7_encodeTape_b2]
        rw [if_neg (by rw [nq_le _ _ (by omega) (by omega)]; omega), at_F 800 f k (by omega) (by omega), hvk.2]
        simp only [Option.bind_some, l_1, l_97, nq_add]
        rw [hq]
        rfl
      by_cases d : LT b (g 0) k
      · rw [e 1 (hm.1 d).2, if_neg (by decide)]
        refine ih (k + 1) (by omega) (by omega) fun j hj => ?_
        by_cases q : j = k
        · rw [q]; exact d
        · exact h3 j (by omega)
      · rw [e 0 (hm.2 d), if_pos (show nI 0 = (0 : Int32) from rfl)]
        exact ⟨fun _ => rfl, fun h => absurd (h k (by omega)) d⟩
theorem t_encodeTape (fu : Nat) (hf : 20000 ≤ fu) (t : Int32) {ee : ES} {hh : HS} {g u : Nat → Nat} {m : Nat} {sl kp : Nat → Nat} (h : ST ee hh g u m sl kp) (a : Nat → Nat) {f v : Nat → Int32} {T : Nat} {b : Nat → Nat} (hT : TP f v T b) (f_dec : Nat → Int32) (oo : OS) (tt : TS) (rr : RS) (sw : SS) :
    (∃ r ee' hh' g' a' u' m', J_X7_encodeTape fu (nI T) f f_dec ee oo tt rr sw hh = some (.inl r, nI 0, ee', hh') ∧ J_X8_encodeTape fu v (nI T) t (nW g) (nW a) (nW u) (nI m) = some (r, nI 0, nI 0, nW g', nW a', nW u', nI m') ∧ ST ee' hh' g' u' m' sl kp) ∨
    (J_X7_encodeTape fu (nI T) f f_dec ee oo tt rr sw hh = some (.inr "java/lang/IllegalArgumentException", nI T, ee, hh) ∧ J_X8_encodeTape fu v (nI T) t (nW g) (nW a) (nW u) (nI m) = some (nI 0, nI T, nI 1, nW g, nW a, nW u, nI m)) ∨
    (J_X7_encodeTape fu (nI T) f f_dec ee oo tt rr sw hh = some (.inr "java/lang/IllegalStateException", nI T, ee, hh) ∧ J_X8_encodeTape fu v (nI T) t (nW g) (nW a) (nW u) (nI m) = some (nI 0, nI T, nI 2, nW g, nW a, nW u, nI m)) := by
  obtain ⟨he, hg, hh0⟩ := h
  have hm := hh0.le
  have h0 := SET_of hg.1
  unfold SET at h0
  have h6 := ((WB_iff g).mp hg.1).2.2.2.1
  have h7 := hg.1.1.2.2.2.1
  have hda : d_alphabet (e_d ee) = nI (g 0) := by obtain ⟨p, l, le, nw, od, en, wr, wi, rfl, _⟩ := he; rfl
  have hel : e_encodedLength ee = nI (g 6) := by obtain ⟨p, l, le, nw, od, en, wr, wi, rfl, _⟩ := he; rfl
  have hv1 : ∀ k, k < T → b k < 256 ∧ f k = nI (b k) := fun k hk => ⟨(hT.2 k hk).1, (hT.2 k hk).2.1⟩
  have hv2 : ∀ k, k < T → b (0 + k) < 256 ∧ v (0 + k) = sb (b (0 + k)) := fun k hk => by rw [Nat.zero_add]; exact ⟨(hT.2 k hk).1, (hT.2 k hk).2.2⟩
  have hT8 := hT.1
  have ea := m_areLetters fu hf v g (by omega) (by omega) b 0 T (by omega) hv2
  have ek := k_ec_b fu (g := g) (by omega) f f_dec oo tt rr sw hh ee hda b T (by omega) hv1 fu 0 (by omega) (by omega) (fun j hj => by omega)
  unfold J_X7_encodeTape J_X8_encodeTape
  by_cases c : ∀ j, j < T → LT b (g 0) j
  · have c' : ∀ j, j < T → LT b (g 0) (0 + j) := fun j hj => by rw [Nat.zero_add]; exact c j hj
    obtain ⟨q, hq⟩ := ek.2 c
    rw [l_0, hq, ea.1 c', J_X7_encodeTape_b2, if_pos (by rw [nq_le _ _ (by omega) (by omega)]; omega), hel]
    simp only [Option.bind_some, l_6, l_7, l_400, nq_add]
    rw [if_neg (show ¬ (nI 1 = nI 0) by decide), rd_W 1726 g 6 (by omega) (by omega)]
    simp only [Option.bind_some, nq_add]
    try simp (disch := first | omega | assumption) only [nq_le, nq_lt, nq_eq]
    by_cases c6 : g 6 + T ≤ 400
    · obtain ⟨hh', b1, b2⟩ := k_remember hh0 he hg (E7_ka a g)
      obtain ⟨ee', d1, d2⟩ := k_et_b fu hf hg f f_dec oo tt rr sw hh' b T c' c6 hT8 hv1 fu 0 ee (by omega) (by omega) he
      obtain ⟨o1, o2, o3, o4⟩ := gEt_ok hg b 0 T c' c6 T (Nat.le_refl _)
      have o7 := o1.1.1.2.2.2.1
      rw [show gEt g b 0 0 7 - g 7 = 0 from Nat.sub_self _] at d1
      refine .inl ⟨nI (gEt g b 0 T 7 - g 7), ee', hh', gEt g b 0 T, nC a g 0 0 1726, chU u (nC a g 0 0 1726) m, chK m, ?_, ?_, d2, o1, b2⟩
      · rw [if_pos c6, b1]
        exact d1
      · rw [if_pos c6, m_keepsAside fu hf]
        simp only [Option.bind_some]
        rw [rd_W 1726 g 7 (by omega) (by omega)]
        simp only [Option.bind_some]
        rw [m_encodesTape fu hf hg v b 0 T c' c6 (by omega) hv2]
        simp only [Option.bind_some]
        rw [rd_W 1726 _ 7 (by omega) (by omega)]
        simp only [Option.bind_some]
        rw [nq_sub _ _ o4, m_changed fu hf _ u t _ m hm]
        rfl
    · refine .inr (.inr ⟨?_, ?_⟩)
      · rw [if_neg c6]
      · rw [if_neg c6]
        rfl
  · have c' : ¬ ∀ j, j < T → LT b (g 0) (0 + j) := fun h => c fun j hj => by have := h j hj; rw [Nat.zero_add] at this; exact this
    refine .inr (.inl ⟨?_, ?_⟩)
    · rw [l_0]; exact ek.1 c
    · rw [l_0, ea.2 c']
      rfl
