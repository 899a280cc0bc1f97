/-! the setup text, both sides -/
def txN : List (List Nat) := [[102, 114, 101, 101, 122, 101], [114, 101, 115, 101, 116], [119, 97, 116, 99, 104], [108, 122, 119], [115, 121, 109, 98, 111, 108, 115], [108, 122, 119, 32], [32], [59], [115, 121, 109, 98, 111, 108, 115, 32]]
def tx (s : Nat) : List Nat := txN.getD s []
def tkN (c : List Nat) (k : Nat) : List Nat := (List.range k).map fun i => c.getD i 0
theorem tkN_s (c : List Nat) (k : Nat) : tkN c (k + 1) = tkN c k ++ [c.getD k 0] := by
  unfold tkN
  rw [List.range_succ, List.map_append]
  rfl
theorem tkN_len (c : List Nat) (k : Nat) : (tkN c k).length = k := by
  unfold tkN
  rw [List.length_map, List.length_range]
theorem tx_all : ∀ s, s < 9 → j_len s = nI (tx s).length ∧ (tx s).length < 10 ∧ tkN (tx s) (tx s).length = tx s := by decide +kernel
theorem tx_chr : ∀ s, s < 9 → ∀ k, k < 10 → (tx s).length ≤ k ∨ j_chr s (nI k) = some (nI ((tx s).getD k 0)) := by decide +kernel
def RW (r : Nat → Int32) (l : List Nat) : Prop := ∀ i, i < l.length → r i = nI (l.getD i 0)
theorem RW_add {r : Nat → Int32} {l : List Nat} (h : RW r l) (c : Nat) : RW (upd r l.length (nI c)) (l ++ [c]) := by
  intro i hi
  rw [List.length_append] at hi
  simp only [List.length_cons, List.length_nil] at hi
  rw [gd_app]
  show (if i = l.length then nI c else r i) = _
  by_cases d : i = l.length
  · rw [if_pos d, if_neg (by omega), d, Nat.sub_self]
    rfl
  · rw [if_neg d, if_pos (by omega)]
    exact h i (by omega)
def WS (w : SS) (l : List Nat) : Prop := ∃ r, w = mkS r (nI l.length) ∧ RW r l
theorem len1 (l : List Nat) (c : Nat) : (l ++ [c]).length = l.length + 1 := by rw [List.length_append]; rfl
theorem k_sign {w : SS} {l : List Nat} (h : WS w l) (c : Nat) (hl : l.length < 429) : ∃ w', J_X5_addSign w (nI c) = some w' ∧ WS w' (l ++ [c]) := by
  obtain ⟨r, rfl, hr⟩ := h
  refine ⟨mkS (upd r l.length (nI c)) (nI (l ++ [c]).length), ?_, _, rfl, RW_add hr c⟩
  unfold J_X5_addSign
  show ((J_X7_put 429 r (nI l.length) (nI c)).bind fun z1 => some (mkS z1 (nI l.length + 1))) = _
  rw [put_F 429 r _ _ hl (by omega), len1, ← nq_add]
  rfl
theorem k_tx_b (fu s : Nat) (hs : s < 9) (l : List Nat) (hl : l.length + (tx s).length ≤ 429) : ∀ n k w, k ≤ (tx s).length → (tx s).length < n + k → WS w (l ++ tkN (tx s) k) →
    ∃ w', J_X5_addText_b2 fu s n w (nI k) = some w' ∧ WS w' (l ++ tx s) := by
  intro n
  obtain ⟨e1, e2, e3⟩ := tx_all s hs
  induction n with
  | zero => intro k w h1 h2; omega
  | succ n ih =>
    intro k w h1 h2 hw
    unfold J_X5_addText_b2
    rw [e1]
    try simp (disch := first | omega | assumption) only [nq_le, nq_lt, nq_eq]
    by_cases c : k = (tx s).length
    · subst c
      rw [e3] at hw
      rw [if_pos (Nat.le_refl _)]
      exact ⟨w, rfl, hw⟩
    · have e4 := (tx_chr s hs k (by omega)).resolve_left (by omega)
      obtain ⟨w1, a1, a2⟩ := k_sign hw ((tx s).getD k 0) (by rw [List.length_append, tkN_len]; omega)
      rw [List.append_assoc, ← tkN_s] at a2
      obtain ⟨w2, b1, b2⟩ := ih (k + 1) w1 (by omega) (by omega) a2
      refine ⟨w2, ?_, b2⟩
      rw [if_neg (by omega), e4]
      simp only [Option.bind_some]
      rw [a1]
      simp only [Option.bind_some, l_1, nq_add]
      exact b1
theorem k_text (fu : Nat) (hf : 20000 ≤ fu) (s : Nat) (hs : s < 9) {w : SS} {l : List Nat} (h : WS w l) (hl : l.length + (tx s).length ≤ 429) : ∃ w', J_X5_addText fu w s = some w' ∧ WS w' (l ++ tx s) := by
  have := (tx_all s hs).2.1
  exact k_tx_b fu s hs l hl fu 0 w (by omega) (by omega) (by rw [show tkN (tx s) 0 = [] from rfl, List.append_nil]; exact h)
def digs (n : Nat) : List Nat := (if n < 100 then [] else [48 + n / 100]) ++ ((if n < 10 then [] else [48 + n / 10 % 10]) ++ [48 + n % 10])
theorem digs_len (n : Nat) : (digs n).length = (if n < 100 then 0 else 1) + ((if n < 10 then 0 else 1) + 1) := by
  unfold digs
  rw [List.length_append, List.length_append]
  split <;> split <;> rfl
theorem k_n37 {w : SS} {l : List Nat} (h : WS w l) (n : Nat) (hn : n < 1000) (hl : l.length < 429) : ∃ w', J_X5_addNumber_b37 w (nI n) = some w' ∧ WS w' (l ++ [48 + n % 10]) := by
  obtain ⟨w1, a1, a2⟩ := k_sign h (48 + n % 10) hl
  refine ⟨w1, ?_, a2⟩
  unfold J_X5_addNumber_b37
  rw [l_48, l_10, nq_div _ _ (by omega) (by omega), nq_mul, nq_sub _ _ (by omega), nq_add, show n - n / 10 * 10 = n % 10 by omega, a1]
  rfl
theorem k_n17 {w : SS} {l : List Nat} (h : WS w l) (n : Nat) (hn : n < 1000) (hl : l.length < 428) : ∃ w', J_X5_addNumber_b17 w (nI n) = some w' ∧ WS w' (l ++ ((if n < 10 then [] else [48 + n / 10 % 10]) ++ [48 + n % 10])) := by
  unfold J_X5_addNumber_b17
  rw [l_10]
  try simp (disch := first | omega | assumption) only [nq_le, nq_lt, nq_eq]
  by_cases c : n < 10
  · rw [if_pos c, if_pos c, List.nil_append]
    exact k_n37 h n hn (by omega)
  · rw [if_neg c, if_neg c]
    obtain ⟨w1, a1, a2⟩ := k_sign h (48 + n / 10 % 10) (by omega)
    obtain ⟨w2, b1, b2⟩ := k_n37 a2 n hn (by rw [len1]; omega)
    rw [List.append_assoc] at b2
    refine ⟨w2, ?_, b2⟩
    rw [l_48, nq_div _ _ (by omega) (by omega), nq_div _ _ (by omega) (by omega), nq_mul, nq_sub _ _ (by omega), nq_add, show n / 10 - n / 10 / 10 * 10 = n / 10 % 10 by omega, a1]
    exact b1
theorem k_number {w : SS} {l : List Nat} (h : WS w l) (n : Nat) (hn : n < 1000) (hl : l.length < 427) : ∃ w', J_X5_addNumber w (nI n) = some w' ∧ WS w' (l ++ digs n) := by
  unfold J_X5_addNumber digs
  rw [l_100]
  try simp (disch := first | omega | assumption) only [nq_le, nq_lt, nq_eq]
  by_cases c : n < 100
  · rw [if_pos c, if_pos c, List.nil_append]
    exact k_n17 h n hn (by omega)
  · rw [if_neg c, if_neg c]
    obtain ⟨w1, a1, a2⟩ := k_sign h (48 + n / 100) (by omega)
    obtain ⟨w2, b1, b2⟩ := k_n17 a2 n hn (by rw [len1]; omega)
    rw [List.append_assoc] at b2
    refine ⟨w2, ?_, b2⟩
    rw [l_48, nq_div _ _ (by omega) (by omega), nq_add, a1]
    exact b1
def syA (g : Nat → Nat) (k : Nat) : List Nat := (List.range k).map fun i => 97 + g (526 + i)
theorem syA_s (g : Nat → Nat) (k : Nat) : syA g (k + 1) = syA g k ++ [97 + g (526 + k)] := by
  unfold syA
  rw [List.range_succ, List.map_append]
  rfl
theorem syA_len (g : Nat → Nat) (k : Nat) : (syA g k).length = k := by
  unfold syA
  rw [List.length_map, List.length_range]
theorem k_sy_b (fu : Nat) {ee : ES} {g : Nat → Nat} (en : Nat → Nat) (hel : e_encodedLength ee = nI (g 6)) (hen : e_encoded ee = nW en) (hev : ∀ i, i < g 6 → en i = g (526 + i)) (h6 : g 6 ≤ 400) (l : List Nat) (hl : l.length + g 6 ≤ 429) : ∀ n k w, k ≤ g 6 → g 6 < n + k → WS w (l ++ syA g k) →
    ∃ w', J_X5_addSymbols_b2 fu ee n w (nI k) = some w' ∧ WS w' (l ++ syA g (g 6)) := by
  intro n
  induction n with
  | zero => intro k w h1 h2; omega
  | succ n ih =>
    intro k w h1 h2 hw
    unfold J_X5_addSymbols_b2
    rw [hel]
    try simp (disch := first | omega | assumption) only [nq_le, nq_lt, nq_eq]
    by_cases c : k = g 6
    · subst c
      rw [if_pos (Nat.le_refl _)]
      exact ⟨w, rfl, hw⟩
    · obtain ⟨w1, a1, a2⟩ := k_sign hw (97 + g (526 + k)) (by rw [List.length_append, syA_len]; omega)
      rw [List.append_assoc, ← syA_s] at a2
      obtain ⟨w2, b1, b2⟩ := ih (k + 1) w1 (by omega) (by omega) a2
      refine ⟨w2, ?_, b2⟩
      rw [if_neg (by omega), hen, k_at 400 en k (by omega) (by omega), hev k (by omega)]
      simp only [Option.bind_some, l_97, nq_add]
      rw [a1]
      simp only [Option.bind_some, l_1, nq_add]
      exact b1
def SUT (g : Nat → Nat) : List Nat := tx 5 ++ digs (g 0) ++ tx 6 ++ digs (g 1) ++ tx 6 ++ tx (g 2) ++ tx 6 ++ digs (g 3) ++ tx 7 ++ (if g 6 = 0 then [] else tx 8 ++ syA g (g 6) ++ tx 7)
theorem tx_l (s : Nat) (h : s < 3) : (tx s).length ≤ 6 := by
  have : s = 0 ∨ s = 1 ∨ s = 2 := by omega
  rcases this with rfl | rfl | rfl <;> decide
theorem WS_nil {w : SS} {l : List Nat} (g : Nat → Nat) (h : WS w l) : WS w (l ++ syA g 0) := by
  rw [show syA g 0 = [] from rfl, List.append_nil]
  exact h
theorem RW_nil {r : Nat → Int32} {l : List Nat} (g : Nat → Nat) (h : RW r l) : RW r (l ++ syA g 0) := by
  rw [show syA g 0 = [] from rfl, List.append_nil]
  exact h
theorem k_describe (fu : Nat) (hf : 20000 ≤ fu) {ee : ES} {g : Nat → Nat} (h : RE ee g) (hg : GOOD g) (w : SS) : ∃ w', J_X5_describe fu w ee = some w' ∧ WS w' (SUT g) ∧ (SUT g).length ≤ 429 := by
  have hs := SET_of hg.1
  unfold SET at hs
  have h6 := ((WB_iff g).mp hg.1).2.2.2.1
  obtain ⟨p, l, le, nw, od, en, wr, wi, he, hr, hen, hww⟩ := h
  have e0 : d_alphabet (e_d ee) = nI (g 0) := by rw [he]; rfl
  have e1 : d_widest (e_d ee) = nI (g 1) := by rw [he]; rfl
  have e2 : e_policy ee = nI (g 2) := by rw [he]; rfl
  have e3 : e_limit ee = nI (g 3) := by rw [he]; rfl
  have e6 : e_encodedLength ee = nI (g 6) := by rw [he]; rfl
  have ep : J_X7_nameOfPolicy (nI (g 2)) = some (g 2) := by
    have : g 2 = 0 ∨ g 2 = 1 ∨ g 2 = 2 := by omega
    rcases this with c | c | c <;> rw [c] <;> decide
  have z5 : (tx 5).length = 4 := rfl
  have z6 : (tx 6).length = 1 := rfl
  have z7 : (tx 7).length = 1 := rfl
  have z8 : (tx 8).length = 8 := rfl
  have zp := tx_l (g 2) (by omega)
  have d0 : (digs (g 0)).length ≤ 2 := by rw [digs_len, if_pos (by omega)]; split <;> omega
  have d1 : (digs (g 1)).length = 1 := by rw [digs_len, if_pos (by omega), if_pos (by omega)]
  have d3 : (digs (g 3)).length ≤ 3 := by rw [digs_len]; split <;> split <;> omega
  obtain ⟨w1, a1, b1⟩ := k_text fu hf 5 (by omega) (w := mkS (s_text w) (0 : Int32)) (l := []) ⟨s_text w, rfl, fun i hi => absurd hi (Nat.not_lt_zero _)⟩ (by decide)
  rw [List.nil_append] at b1
  obtain ⟨w2, a2, b2⟩ := k_number b1 (g 0) (by omega) (by omega)
  obtain ⟨w3, a3, b3⟩ := k_text fu hf 6 (by omega) b2 (by simp only [List.length_append]; omega)
  obtain ⟨w4, a4, b4⟩ := k_number b3 (g 1) (by omega) (by simp only [List.length_append]; omega)
  obtain ⟨w5, a5, b5⟩ := k_text fu hf 6 (by omega) b4 (by simp only [List.length_append]; omega)
  obtain ⟨w6, a6, b6⟩ := k_text fu hf (g 2) (by omega) b5 (by simp only [List.length_append]; omega)
  obtain ⟨w7, a7, b7⟩ := k_text fu hf 6 (by omega) b6 (by simp only [List.length_append]; omega)
  obtain ⟨w8, a8, b8⟩ := k_number b7 (g 3) (by omega) (by simp only [List.length_append]; omega)
  obtain ⟨w9, a9, b9⟩ := k_text fu hf 7 (by omega) b8 (by simp only [List.length_append]; omega)
  unfold J_X5_describe SUT
  rw [a1]
  simp only [Option.bind_some, e0, e1, e2, e3, e6]
  rw [a2]
  simp only [Option.bind_some]
  rw [a3]
  simp only [Option.bind_some]
  rw [a4]
  simp only [Option.bind_some]
  rw [a5]
  simp only [Option.bind_some, ep]
  rw [a6]
  simp only [Option.bind_some]
  rw [a7]
  simp only [Option.bind_some]
  rw [a8]
  simp only [Option.bind_some]
  rw [a9]
  simp only [Option.bind_some]
  rw [l_0]
  try simp (disch := first | omega | assumption) only [nq_le, nq_lt, nq_eq]
  by_cases c : g 6 = 0
  · rw [if_pos (by omega), if_pos c, List.append_nil]
    exact ⟨w9, rfl, b9, by simp only [List.length_append]; omega⟩
  · rw [if_neg (by omega), if_neg c]
    obtain ⟨w10, a10, b10⟩ := k_text fu hf 8 (by omega) b9 (by simp only [List.length_append]; omega)
    obtain ⟨w11, a11, b11⟩ := k_sy_b fu (ee := ee) (g := g) en e6 (by rw [he]; rfl) hen h6 _ (by simp only [List.length_append]; omega) fu 0 w10 (by omega) (by omega) (WS_nil g b10)
    obtain ⟨w12, a12, b12⟩ := k_text fu hf 7 (by omega) b11 (by simp only [List.length_append, syA_len]; omega)
    refine ⟨w12, ?_, ?_, by simp only [List.length_append, syA_len]; omega⟩
    · rw [a10]
      simp only [Option.bind_some]
      rw [show J_X5_addSymbols fu w10 ee = some w11 from a11]
      simp only [Option.bind_some]
      rw [a12]
      rfl
    · simp only [List.append_assoc] at b12 ⊢
      exact b12
