/-! the class's dictionary -/
theorem k_at (n : Nat) (f : Nat → Nat) (i : Nat) (hi : i < n) (hn : n < 2147483648) : J_X7_at n (nW f) (nI i) = some (nI (f i)) := by
  unfold J_X7_at
  simp (disch := first | omega | assumption) only [nq_neg, nq_fix, nq_sub1, nq_addN, nq_add, nq_mul, nq_sub, nq_ltN, nq_Nlt, nq_leN, nq_Nle, nq_lt, nq_le, nq_eq, nq_div, nq_pow, nq_tn, rd_W, wr_W, nS_eq, nS_ne, Option.bind_some, Option.bind_none, ↓reduceIte, Bool.false_eq_true, Nat.reduceEqDiff, Nat.reduceLT, Nat.reduceLeDiff, Nat.reduceAdd, Nat.reduceMul, Nat.reduceSub, Nat.reducePow, Nat.add_sub_cancel, Nat.zero_le, Nat.not_lt_zero, Nat.le_refl, Nat.lt_irrefl, l_0, l_1, l_2, l_3, l_4, l_5, l_6, l_7, l_8, l_9, l_10, l_13, l_14, l_16, l_20, l_24, l_26, l_30, l_31, l_32, l_48, l_57, l_59, l_63, l_96, l_97, l_100, l_122, l_200, l_255, l_256, l_270, l_400, l_429, l_526, l_780, l_800, l_926, l_1726, l_12082, show ¬ (n ≤ i) by omega]
theorem k_atN (n : Nat) (f : Nat → Int32) : J_X7_at n f (nI 4294967295) = some (nI 0) := by
  unfold J_X7_at
  simp (disch := first | omega | assumption) only [nq_neg, nq_fix, nq_sub1, nq_addN, nq_add, nq_mul, nq_sub, nq_ltN, nq_Nlt, nq_leN, nq_Nle, nq_lt, nq_le, nq_eq, nq_div, nq_pow, nq_tn, rd_W, wr_W, nS_eq, nS_ne, Option.bind_some, Option.bind_none, ↓reduceIte, Bool.false_eq_true, Nat.reduceEqDiff, Nat.reduceLT, Nat.reduceLeDiff, Nat.reduceAdd, Nat.reduceMul, Nat.reduceSub, Nat.reducePow, Nat.add_sub_cancel, Nat.zero_le, Nat.not_lt_zero, Nat.le_refl, Nat.lt_irrefl, l_0, l_1, l_2, l_3, l_4, l_5, l_6, l_7, l_8, l_9, l_10, l_13, l_14, l_16, l_20, l_24, l_26, l_30, l_31, l_32, l_48, l_57, l_59, l_63, l_96, l_97, l_100, l_122, l_200, l_255, l_256, l_270, l_400, l_429, l_526, l_780, l_800, l_926, l_1726, l_12082]
theorem k_atO (n : Nat) (f : Nat → Int32) (i : Nat) (hi : n ≤ i) (hn : i < 2147483648) : J_X7_at n f (nI i) = some (nI 0) := by
  unfold J_X7_at
  simp (disch := first | omega | assumption) only [nq_neg, nq_fix, nq_sub1, nq_addN, nq_add, nq_mul, nq_sub, nq_ltN, nq_Nlt, nq_leN, nq_Nle, nq_lt, nq_le, nq_eq, nq_div, nq_pow, nq_tn, rd_W, wr_W, nS_eq, nS_ne, Option.bind_some, Option.bind_none, ↓reduceIte, Bool.false_eq_true, Nat.reduceEqDiff, Nat.reduceLT, Nat.reduceLeDiff, Nat.reduceAdd, Nat.reduceMul, Nat.reduceSub, Nat.reducePow, Nat.add_sub_cancel, Nat.zero_le, Nat.not_lt_zero, Nat.le_refl, Nat.lt_irrefl, l_0, l_1, l_2, l_3, l_4, l_5, l_6, l_7, l_8, l_9, l_10, l_13, l_14, l_16, l_20, l_24, l_26, l_30, l_31, l_32, l_48, l_57, l_59, l_63, l_96, l_97, l_100, l_122, l_200, l_255, l_256, l_270, l_400, l_429, l_526, l_780, l_800, l_926, l_1726, l_12082, show n ≤ i by omega]
theorem k_put (n : Nat) (f : Nat → Nat) (i v : Nat) (hi : i < n) (hn : n < 2147483648) : J_X7_put n (nW f) (nI i) (nI v) = some (nW (nS f i v)) := by
  unfold J_X7_put
  simp (disch := first | omega | assumption) only [nq_neg, nq_fix, nq_sub1, nq_addN, nq_add, nq_mul, nq_sub, nq_ltN, nq_Nlt, nq_leN, nq_Nle, nq_lt, nq_le, nq_eq, nq_div, nq_pow, nq_tn, rd_W, wr_W, nS_eq, nS_ne, Option.bind_some, Option.bind_none, ↓reduceIte, Bool.false_eq_true, Nat.reduceEqDiff, Nat.reduceLT, Nat.reduceLeDiff, Nat.reduceAdd, Nat.reduceMul, Nat.reduceSub, Nat.reducePow, Nat.add_sub_cancel, Nat.zero_le, Nat.not_lt_zero, Nat.le_refl, Nat.lt_irrefl, l_0, l_1, l_2, l_3, l_4, l_5, l_6, l_7, l_8, l_9, l_10, l_13, l_14, l_16, l_20, l_24, l_26, l_30, l_31, l_32, l_48, l_57, l_59, l_63, l_96, l_97, l_100, l_122, l_200, l_255, l_256, l_270, l_400, l_429, l_526, l_780, l_800, l_926, l_1726, l_12082, show ¬ (n ≤ i) by omega]
def dN (p l le nw od : Nat → Nat) (z wid n : Nat) : DS := mkD (nW p) (nW l) (nW le) (nW nw) (nW od) (nI z) (nI wid) (nI n)
def RD (p l le nw od : Nat → Nat) (z n : Nat) (P L : Nat → Nat) : Prop :=
  (∀ k, k ≤ z → p k = 4294967295) ∧ (∀ k, z < k → k < n → p k = P k) ∧ (∀ k, k < z → l k = k) ∧ l z = 4294967295 ∧ (∀ k, z < k → k < n → l k = L k) ∧
  (∀ k, k < n → le k = (ph z P L k).length) ∧ (∀ k, k < n → nw k = kidN z P k n) ∧ (∀ k, z < k → k < n → od k = kidN z P (P k) k)
theorem k_define (p l le nw od : Nat → Nat) (z wid n c b s ln : Nat) (hc : c < 256) :
    J_X1_define (dN p l le nw od z wid n) (nI c) (nI b) (nI s) (nI ln) = some (dN (nS p c b) (nS l c s) (nS le c ln) (nS nw c 4294967295) od z wid n) := by
  unfold J_X1_define
  simp (disch := first | omega | assumption) only [d_prefix, d_lastSymbol, d_lengths, d_newest, d_older, d_alphabet, d_widest, d_count, mkD, dN, nq_neg, nq_fix, nq_sub1, nq_addN, nq_add, nq_mul, nq_sub, nq_ltN, nq_Nlt, nq_leN, nq_Nle, nq_lt, nq_le, nq_eq, nq_div, nq_pow, nq_tn, rd_W, wr_W, nS_eq, nS_ne, Option.bind_some, Option.bind_none, ↓reduceIte, Bool.false_eq_true, Nat.reduceEqDiff, Nat.reduceLT, Nat.reduceLeDiff, Nat.reduceAdd, Nat.reduceMul, Nat.reduceSub, Nat.reducePow, Nat.add_sub_cancel, Nat.zero_le, Nat.not_lt_zero, Nat.le_refl, Nat.lt_irrefl, l_0, l_1, l_2, l_3, l_4, l_5, l_6, l_7, l_8, l_9, l_10, l_13, l_14, l_16, l_20, l_24, l_26, l_30, l_31, l_32, l_48, l_57, l_59, l_63, l_96, l_97, l_100, l_122, l_200, l_255, l_256, l_270, l_400, l_429, l_526, l_780, l_800, l_926, l_1726, l_12082, hc]
theorem kidN_none {z : Nat} {P : Nat → Nat} {c : Nat} : ∀ n, (∀ k, z < k → k < n → P k ≠ c) → kidN z P c n = 4294967295 := by
  intro n h
  rcases kidN_cases z P c n with ⟨h1, _⟩ | ⟨h1, h2, h3, _⟩
  · exact h1
  · exact absurd h3 (h _ h1 h2)
theorem k_keep_b (fu : Nat) (od : Nat → Nat) (z wid n : Nat) (hz : z < 256) (P L : Nat → Nat) : ∀ m k p l le nw, k ≤ z → z < m + k → (∀ j, j < k → p j = 4294967295 ∧ l j = j ∧ le j = 1 ∧ nw j = 4294967295) →
    ∃ p' l' le' nw', J_X1_keepFirstCodes_b2 fu m (dN p l le nw od z wid n) (nI k) = some (dN p' l' le' nw' od z wid (z + 1)) ∧ RD p' l' le' nw' od z (z + 1) P L := by
  intro m
  induction m with
  | zero => intro k p l le nw h1 h2; omega
  | succ m ih =>
    intro k p l le nw h1 h2 h3
    unfold J_X1_keepFirstCodes_b2
    by_cases h4 : k = z
    · subst h4
      refine ⟨nS p k 4294967295, nS l k 4294967295, nS le k 0, nS nw k 4294967295, ?_, ?_⟩
      · have := k_define p l le nw od k wid n k 4294967295 4294967295 0 hz
        simp (disch := first | omega | assumption) only [d_prefix, d_lastSymbol, d_lengths, d_newest, d_older, d_alphabet, d_widest, d_count, mkD, dN, nq_neg, nq_fix, nq_sub1, nq_addN, nq_add, nq_mul, nq_sub, nq_ltN, nq_Nlt, nq_leN, nq_Nle, nq_lt, nq_le, nq_eq, nq_div, nq_pow, nq_tn, rd_W, wr_W, nS_eq, nS_ne, Option.bind_some, Option.bind_none, ↓reduceIte, Bool.false_eq_true, Nat.reduceEqDiff, Nat.reduceLT, Nat.reduceLeDiff, Nat.reduceAdd, Nat.reduceMul, Nat.reduceSub, Nat.reducePow, Nat.add_sub_cancel, Nat.zero_le, Nat.not_lt_zero, Nat.le_refl, Nat.lt_irrefl, l_0, l_1, l_2, l_3, l_4, l_5, l_6, l_7, l_8, l_9, l_10, l_13, l_14, l_16, l_20, l_24, l_26, l_30, l_31, l_32, l_48, l_57, l_59, l_63, l_96, l_97, l_100, l_122, l_200, l_255, l_256, l_270, l_400, l_429, l_526, l_780, l_800, l_926, l_1726, l_12082] at this ⊢
        rw [this]
        simp (disch := first | omega | assumption) only [nq_neg, nq_fix, nq_sub1, nq_addN, nq_add, nq_mul, nq_sub, nq_ltN, nq_Nlt, nq_leN, nq_Nle, nq_lt, nq_le, nq_eq, nq_div, nq_pow, nq_tn, rd_W, wr_W, nS_eq, nS_ne, Option.bind_some, Option.bind_none, ↓reduceIte, Bool.false_eq_true, Nat.reduceEqDiff, Nat.reduceLT, Nat.reduceLeDiff, Nat.reduceAdd, Nat.reduceMul, Nat.reduceSub, Nat.reducePow, Nat.add_sub_cancel, Nat.zero_le, Nat.not_lt_zero, Nat.le_refl, Nat.lt_irrefl, l_0, l_1, l_2, l_3, l_4, l_5, l_6, l_7, l_8, l_9, l_10, l_13, l_14, l_16, l_20, l_24, l_26, l_30, l_31, l_32, l_48, l_57, l_59, l_63, l_96, l_97, l_100, l_122, l_200, l_255, l_256, l_270, l_400, l_429, l_526, l_780, l_800, l_926, l_1726, l_12082]
      · have hk : ∀ c, kidN k P c (k + 1) = 4294967295 := fun c => kidN_none _ fun j h5 h6 => by omega
        refine ⟨fun j hj => ?_, fun j h5 h6 => by omega, fun j hj => ?_, by simp (disch := omega) only [nS_eq, nS_ne], fun j h5 h6 => by omega, fun j hj => ?_, fun j hj => ?_, fun j h5 h6 => by omega⟩
        · by_cases h5 : j = k
          · subst h5; simp (disch := omega) only [nS_eq, nS_ne]
          · rw [nS_ne _ _ _ _ h5]; exact (h3 j (by omega)).1
        · rw [nS_ne _ _ _ _ (by omega)]; exact (h3 j hj).2.1
        · by_cases h5 : j = k
          · subst h5; rw [ph_z]; simp (disch := omega) only [nS_eq, nS_ne]; rfl
          · rw [nS_ne _ _ _ _ h5, ph_lt (show j < k by omega)]; exact (h3 j (by omega)).2.2.1
        · rw [hk]
          by_cases h5 : j = k
          · subst h5; simp (disch := omega) only [nS_eq, nS_ne]
          · rw [nS_ne _ _ _ _ h5]; exact (h3 j (by omega)).2.2.2
    · have h5 := k_define p l le nw od z wid n k 4294967295 k 1 (by omega)
      have h6 := ih (k + 1) (nS p k 4294967295) (nS l k k) (nS le k 1) (nS nw k 4294967295) (by omega) (by omega) (fun j hj => by
        by_cases h7 : j = k
        · subst h7
          exact ⟨by simp (disch := omega) only [nS_eq, nS_ne], by simp (disch := omega) only [nS_eq, nS_ne], by simp (disch := omega) only [nS_eq, nS_ne], by simp (disch := omega) only [nS_eq, nS_ne]⟩
        · have := h3 j (by omega)
          exact ⟨by rw [nS_ne _ _ _ _ h7]; exact this.1, by rw [nS_ne _ _ _ _ h7]; exact this.2.1, by rw [nS_ne _ _ _ _ h7]; exact this.2.2.1, by rw [nS_ne _ _ _ _ h7]; exact this.2.2.2⟩)
      obtain ⟨p', l', le', nw', h7, h8⟩ := h6
      refine ⟨p', l', le', nw', ?_, h8⟩
      rw [← h7]
      simp (disch := first | omega | assumption) only [d_prefix, d_lastSymbol, d_lengths, d_newest, d_older, d_alphabet, d_widest, d_count, mkD, dN, nq_neg, nq_fix, nq_sub1, nq_addN, nq_add, nq_mul, nq_sub, nq_ltN, nq_Nlt, nq_leN, nq_Nle, nq_lt, nq_le, nq_eq, nq_div, nq_pow, nq_tn, rd_W, wr_W, nS_eq, nS_ne, Option.bind_some, Option.bind_none, ↓reduceIte, Bool.false_eq_true, Nat.reduceEqDiff, Nat.reduceLT, Nat.reduceLeDiff, Nat.reduceAdd, Nat.reduceMul, Nat.reduceSub, Nat.reducePow, Nat.add_sub_cancel, Nat.zero_le, Nat.not_lt_zero, Nat.le_refl, Nat.lt_irrefl, l_0, l_1, l_2, l_3, l_4, l_5, l_6, l_7, l_8, l_9, l_10, l_13, l_14, l_16, l_20, l_24, l_26, l_30, l_31, l_32, l_48, l_57, l_59, l_63, l_96, l_97, l_100, l_122, l_200, l_255, l_256, l_270, l_400, l_429, l_526, l_780, l_800, l_926, l_1726, l_12082, show ¬ (z ≤ k) by omega] at h5 ⊢
      rw [h5]
      simp (disch := first | omega | assumption) only [nq_neg, nq_fix, nq_sub1, nq_addN, nq_add, nq_mul, nq_sub, nq_ltN, nq_Nlt, nq_leN, nq_Nle, nq_lt, nq_le, nq_eq, nq_div, nq_pow, nq_tn, rd_W, wr_W, nS_eq, nS_ne, Option.bind_some, Option.bind_none, ↓reduceIte, Bool.false_eq_true, Nat.reduceEqDiff, Nat.reduceLT, Nat.reduceLeDiff, Nat.reduceAdd, Nat.reduceMul, Nat.reduceSub, Nat.reducePow, Nat.add_sub_cancel, Nat.zero_le, Nat.not_lt_zero, Nat.le_refl, Nat.lt_irrefl, l_0, l_1, l_2, l_3, l_4, l_5, l_6, l_7, l_8, l_9, l_10, l_13, l_14, l_16, l_20, l_24, l_26, l_30, l_31, l_32, l_48, l_57, l_59, l_63, l_96, l_97, l_100, l_122, l_200, l_255, l_256, l_270, l_400, l_429, l_526, l_780, l_800, l_926, l_1726, l_12082]
theorem k_keep (fu : Nat) (hf : 300 ≤ fu) (p l le nw od : Nat → Nat) (z wid n : Nat) (hz : z < 256) (P L : Nat → Nat) :
    ∃ p' l' le' nw', J_X1_keepFirstCodes fu (dN p l le nw od z wid n) = some (dN p' l' le' nw' od z wid (z + 1)) ∧ RD p' l' le' nw' od z (z + 1) P L :=
  k_keep_b fu od z wid n hz P L fu 0 p l le nw (by omega) (by omega) (fun j hj => by omega)
theorem k_dbegin (fu : Nat) (hf : 300 ≤ fu) (p l le nw od : Nat → Nat) (z0 wid0 n z wid : Nat) (hz : z < 256) (P L : Nat → Nat) :
    ∃ p' l' le' nw', J_X1_begin fu (dN p l le nw od z0 wid0 n) (nI z) (nI wid) = some (dN p' l' le' nw' od z wid (z + 1)) ∧ RD p' l' le' nw' od z (z + 1) P L := by
  obtain ⟨p', l', le', nw', h1, h2⟩ := k_keep fu hf p l le nw od z wid n hz P L
  refine ⟨p', l', le', nw', ?_, h2⟩
  unfold J_X1_begin
  simp only [d_prefix, d_lastSymbol, d_lengths, d_newest, d_older, d_alphabet, d_widest, d_count, mkD, dN] at h1 ⊢
  rw [h1]
  rfl
theorem kidC_step {z : Nat} {P : Nat → Nat} {c : Nat} : ∀ m, kidN z P c m ≠ 4294967295 → kidC z P c m = kidC z P c (kidN z P c m) + 1 := by
  intro m
  induction m with
  | zero => intro h; exact absurd rfl h
  | succ m ih =>
    intro h
    by_cases h1 : z < m ∧ P m = c
    · have h2 : kidN z P c (m + 1) = m := if_pos h1
      rw [h2]
      exact if_pos h1
    · have h2 : kidN z P c (m + 1) = kidN z P c m := if_neg h1
      rw [h2] at h ⊢
      rw [← ih h]
      exact if_neg h1
theorem kidC_zero {z : Nat} {P : Nat → Nat} {c : Nat} : ∀ m, m ≤ 4294967295 → kidN z P c m = 4294967295 → kidC z P c m = 0 := by
  intro m
  induction m with
  | zero => intro _ _; rfl
  | succ m ih =>
    intro hm h
    by_cases h1 : z < m ∧ P m = c
    · have h2 : kidN z P c (m + 1) = m := if_pos h1
      omega
    · have h2 : kidN z P c (m + 1) = kidN z P c m := if_neg h1
      rw [h2] at h
      rw [← ih (by omega) h]
      exact if_neg h1
def kidCs (z : Nat) (P L : Nat → Nat) (c s : Nat) : Nat → Nat
| 0 => 0
| n + 1 => if z < n ∧ P n = c ∧ L n = s then kidCs z P L c s n + 1 else kidCs z P L c s n
theorem sm_bump (f f' : Nat → Nat) (s b : Nat) (hs : s < b) (h1 : f' s = f s + 1) (h2 : ∀ j, j ≠ s → f' j = f j) : sm f' 0 b = sm f 0 b + 1 := by
  induction b with
  | zero => omega
  | succ b ih =>
    rw [sm_succ f 0 b (by omega), sm_succ f' 0 b (by omega)]
    by_cases h3 : s = b
    · subst h3
      rw [sm_congr f f' 0 s (fun k _ h => h2 k (by omega)), h1]
      omega
    · rw [ih (by omega), h2 b (by omega)]
      omega
theorem kidC_sm {z : Nat} {P L : Nat → Nat} {c : Nat} : ∀ n, WD z n P L → kidC z P c n = sm (fun s => kidCs z P L c s n) 0 z := by
  intro n
  induction n with
  | zero =>
    intro _
    have := sm_le (fun s => kidCs z P L c s 0) 0 0 z (fun k _ _ => Nat.le_refl _)
    show 0 = _
    omega
  | succ n ih =>
    intro wd
    have h0 := ih fun k h1 h2 => wd k h1 (by omega)
    by_cases h1 : z < n ∧ P n = c
    · have h2 : kidC z P c (n + 1) = kidC z P c n + 1 := if_pos h1
      have h3 := wd n h1.1 (by omega)
      rw [h2, h0]
      refine (sm_bump _ _ (L n) z h3.2.2 ?_ ?_).symm
      · exact if_pos ⟨h1.1, h1.2, rfl⟩
      · intro j hj
        exact if_neg fun h => hj h.2.2.symm
    · have h2 : kidC z P c (n + 1) = kidC z P c n := if_neg h1
      rw [h2, h0]
      exact (sm_congr _ _ 0 z fun k _ _ => if_neg fun h => h1 ⟨h.1, h.2.1⟩).symm
theorem kidCs_le {z : Nat} {P L : Nat → Nat} {c s : Nat} : ∀ n, UD z n P L → kidCs z P L c s n ≤ 1 ∧ (kidCs z P L c s n = 1 → ∃ k, z < k ∧ k < n ∧ P k = c ∧ L k = s) := by
  intro n
  induction n with
  | zero => intro _; exact ⟨Nat.zero_le _, fun h => absurd h (by show ¬ (0 = 1); omega)⟩
  | succ n ih =>
    intro u
    obtain ⟨h1, h2⟩ := ih fun j k h1 h2 h3 => u j k h1 h2 (by omega)
    by_cases h3 : z < n ∧ P n = c ∧ L n = s
    · have h4 : kidCs z P L c s (n + 1) = kidCs z P L c s n + 1 := if_pos h3
      have h5 : kidCs z P L c s n = 0 := by
        rcases Nat.lt_or_ge (kidCs z P L c s n) 1 with h | h
        · omega
        · obtain ⟨k, h6, h7, h8, h9⟩ := h2 (by omega)
          exact absurd ⟨by rw [h8, h3.2.1], by rw [h9, h3.2.2]⟩ (u k n h6 h7 (by omega))
      exact ⟨by omega, fun _ => ⟨n, h3.1, by omega, h3.2.1, h3.2.2⟩⟩
    · have h4 : kidCs z P L c s (n + 1) = kidCs z P L c s n := if_neg h3
      rw [h4]
      refine ⟨h1, fun h => ?_⟩
      obtain ⟨k, h6, h7, h8, h9⟩ := h2 h
      exact ⟨k, h6, by omega, h8, h9⟩
/-- a code has no more children than there are symbols -/
theorem kidC_le {z n : Nat} {P L : Nat → Nat} (wd : WD z n P L) (ud : UD z n P L) (c : Nat) : kidC z P c n ≤ z := by
  rw [kidC_sm n wd]
  have := sm_le (fun s => kidCs z P L c s n) 1 0 z (fun k _ _ => (kidCs_le n ud).1)
  omega
theorem k_longer_b (fu : Nat) (p l le nw od : Nat → Nat) (z wid n : Nat) (P L : Nat → Nat) (h : RD p l le nw od z n P L) (wd : WD z n P L) (ud : UD z n P L) (hz : z < 256) (hn : n ≤ 256) (c s : Nat) (hs : s < z) :
    ∀ f m seen, m ≤ n → m < f → kidC z P c n = seen + kidC z P c m → (∀ j, z < j → m ≤ j → j < n → ¬ (P j = c ∧ L j = s)) →
      J_X1_longerBy_b12 fu (dN p l le nw od z wid n) f (nI s) (nI (kidN z P c m)) (nI seen) = some (nI (kidS z P L c s n)) := by
  intro f
  obtain ⟨r1, r2, r3, r4, r5, r6, r7, r8⟩ := h
  have hle := kidC_le wd ud c
  induction f with
  | zero => intro m seen h1 h2; omega
  | succ f ih =>
    intro m seen h1 h2 h3 h4
    unfold J_X1_longerBy_b12
    rcases kidN_cases z P c m with ⟨h5, h6⟩ | ⟨h5, h6, h7, h8⟩
    · have h9 : kidS z P L c s n = 4294967295 := by
        rcases kidS_cases z P L c s n with ⟨h, _⟩ | ⟨h, h10, h11, h12⟩
        · exact h
        · rcases Nat.lt_or_ge (kidS z P L c s n) m with h13 | h13
          · exact absurd h11 (h6 _ h h13)
          · exact absurd ⟨h11, h12⟩ (h4 _ h h13 h10)
      rw [h5, h9]
      simp (disch := first | omega | assumption) only [d_prefix, d_lastSymbol, d_lengths, d_newest, d_older, d_alphabet, d_widest, d_count, mkD, dN, nq_neg, nq_fix, nq_sub1, nq_addN, nq_add, nq_mul, nq_sub, nq_ltN, nq_Nlt, nq_leN, nq_Nle, nq_lt, nq_le, nq_eq, nq_div, nq_pow, nq_tn, rd_W, wr_W, nS_eq, nS_ne, Option.bind_some, Option.bind_none, ↓reduceIte, Bool.false_eq_true, Nat.reduceEqDiff, Nat.reduceLT, Nat.reduceLeDiff, Nat.reduceAdd, Nat.reduceMul, Nat.reduceSub, Nat.reducePow, Nat.add_sub_cancel, Nat.zero_le, Nat.not_lt_zero, Nat.le_refl, Nat.lt_irrefl, l_0, l_1, l_2, l_3, l_4, l_5, l_6, l_7, l_8, l_9, l_10, l_13, l_14, l_16, l_20, l_24, l_26, l_30, l_31, l_32, l_48, l_57, l_59, l_63, l_96, l_97, l_100, l_122, l_200, l_255, l_256, l_270, l_400, l_429, l_526, l_780, l_800, l_926, l_1726, l_12082, ite_self]
    · have h9 := kidC_step (z := z) (P := P) (c := c) m (by omega)
      have h10 := r5 (kidN z P c m) h5 (by omega)
      have h11 := wd (kidN z P c m) h5 (by omega)
      have h12 := r8 (kidN z P c m) h5 (by omega)
      have e1 := k_at 256 l (kidN z P c m) (by omega) (by omega)
      have e2 := k_at 256 od (kidN z P c m) (by omega) (by omega)
      simp (disch := first | omega | assumption) only [d_prefix, d_lastSymbol, d_lengths, d_newest, d_older, d_alphabet, d_widest, d_count, mkD, dN, nq_neg, nq_fix, nq_sub1, nq_addN, nq_add, nq_mul, nq_sub, nq_ltN, nq_Nlt, nq_leN, nq_Nle, nq_lt, nq_le, nq_eq, nq_div, nq_pow, nq_tn, rd_W, wr_W, nS_eq, nS_ne, Option.bind_some, Option.bind_none, ↓reduceIte, Bool.false_eq_true, Nat.reduceEqDiff, Nat.reduceLT, Nat.reduceLeDiff, Nat.reduceAdd, Nat.reduceMul, Nat.reduceSub, Nat.reducePow, Nat.add_sub_cancel, Nat.zero_le, Nat.not_lt_zero, Nat.le_refl, Nat.lt_irrefl, l_0, l_1, l_2, l_3, l_4, l_5, l_6, l_7, l_8, l_9, l_10, l_13, l_14, l_16, l_20, l_24, l_26, l_30, l_31, l_32, l_48, l_57, l_59, l_63, l_96, l_97, l_100, l_122, l_200, l_255, l_256, l_270, l_400, l_429, l_526, l_780, l_800, l_926, l_1726, l_12082, show ¬ (z ≤ seen) by omega, show ¬ (kidN z P c m = 4294967295) by omega, e1, e2, h10, h12]
      by_cases h13 : L (kidN z P c m) = s
      · rw [if_pos h13, kidS_of ud h5 (by omega) h7 h13]
      · rw [if_neg h13, h7]
        exact ih (kidN z P c m) (seen + 1) (by omega) (by omega) (by omega) fun j hj1 hj2 hj3 => by
          rcases Nat.lt_or_ge j m with h14 | h14
          · rcases Nat.eq_or_lt_of_le hj2 with h15 | h15
            · rw [← h15]; exact fun h => h13 h.2
            · exact fun h => h8 j h15 h14 h.1
          · exact h4 j hj1 h14 hj3
theorem k_longerBy (fu : Nat) (hf : 300 ≤ fu) (p l le nw od : Nat → Nat) (z wid n : Nat) (P L : Nat → Nat) (h : RD p l le nw od z n P L) (wd : WD z n P L) (ud : UD z n P L) (hz : z < 256) (hn : n ≤ 256) (c s : Nat) (hc : c < n) (hs : s < z) :
    J_X1_longerBy fu (dN p l le nw od z wid n) (nI c) (nI s) = some (nI (kidS z P L c s n)) := by
  unfold J_X1_longerBy
  have e := k_at 256 nw c (by omega) (by omega)
  rw [h.2.2.2.2.2.2.1 c hc] at e
  have h1 := k_longer_b fu p l le nw od z wid n P L h wd ud hz hn c s hs fu n 0 (Nat.le_refl _) (by omega) (by omega) (fun j _ h1 h2 => by omega)
  simp (disch := first | omega | assumption) only [d_prefix, d_lastSymbol, d_lengths, d_newest, d_older, d_alphabet, d_widest, d_count, mkD, dN, nq_neg, nq_fix, nq_sub1, nq_addN, nq_add, nq_mul, nq_sub, nq_ltN, nq_Nlt, nq_leN, nq_Nle, nq_lt, nq_le, nq_eq, nq_div, nq_pow, nq_tn, rd_W, wr_W, nS_eq, nS_ne, Option.bind_some, Option.bind_none, ↓reduceIte, Bool.false_eq_true, Nat.reduceEqDiff, Nat.reduceLT, Nat.reduceLeDiff, Nat.reduceAdd, Nat.reduceMul, Nat.reduceSub, Nat.reducePow, Nat.add_sub_cancel, Nat.zero_le, Nat.not_lt_zero, Nat.le_refl, Nat.lt_irrefl, l_0, l_1, l_2, l_3, l_4, l_5, l_6, l_7, l_8, l_9, l_10, l_13, l_14, l_16, l_20, l_24, l_26, l_30, l_31, l_32, l_48, l_57, l_59, l_63, l_96, l_97, l_100, l_122, l_200, l_255, l_256, l_270, l_400, l_429, l_526, l_780, l_800, l_926, l_1726, l_12082, e] at h1 ⊢
  exact h1
/-! the class's dictionary, further -/
theorem k_lengthOf (p l le nw od : Nat → Nat) (z wid n : Nat) (P L : Nat → Nat) (h : RD p l le nw od z n P L) (hn : n ≤ 256) (c : Nat) (hc : c < n) :
    J_X1_lengthOf (dN p l le nw od z wid n) (nI c) = some (nI (ph z P L c).length) := by
  unfold J_X1_lengthOf
  have e := k_at 256 le c (by omega) (by omega)
  rw [h.2.2.2.2.2.1 c hc] at e
  simp (disch := first | omega | assumption) only [d_prefix, d_lastSymbol, d_lengths, d_newest, d_older, d_alphabet, d_widest, d_count, mkD, dN, nq_neg, nq_fix, nq_sub1, nq_addN, nq_add, nq_mul, nq_sub, nq_ltN, nq_Nlt, nq_leN, nq_Nle, nq_lt, nq_le, nq_eq, nq_div, nq_pow, nq_tn, rd_W, wr_W, nS_eq, nS_ne, Option.bind_some, Option.bind_none, ↓reduceIte, Bool.false_eq_true, Nat.reduceEqDiff, Nat.reduceLT, Nat.reduceLeDiff, Nat.reduceAdd, Nat.reduceMul, Nat.reduceSub, Nat.reducePow, Nat.add_sub_cancel, Nat.zero_le, Nat.not_lt_zero, Nat.le_refl, Nat.lt_irrefl, l_0, l_1, l_2, l_3, l_4, l_5, l_6, l_7, l_8, l_9, l_10, l_13, l_14, l_16, l_20, l_24, l_26, l_30, l_31, l_32, l_48, l_57, l_59, l_63, l_96, l_97, l_100, l_122, l_200, l_255, l_256, l_270, l_400, l_429, l_526, l_780, l_800, l_926, l_1726, l_12082, e]
theorem k_room (p l le nw od : Nat → Nat) (z wid n : Nat) (hw : wid ≤ 8) : J_X1_room (dN p l le nw od z wid n) = some (nI (2 ^ wid)) := by
  unfold J_X1_room
  simp (disch := first | omega | assumption) only [d_prefix, d_lastSymbol, d_lengths, d_newest, d_older, d_alphabet, d_widest, d_count, mkD, dN, nq_neg, nq_fix, nq_sub1, nq_addN, nq_add, nq_mul, nq_sub, nq_ltN, nq_Nlt, nq_leN, nq_Nle, nq_lt, nq_le, nq_eq, nq_div, nq_pow, nq_tn, rd_W, wr_W, nS_eq, nS_ne, Option.bind_some, Option.bind_none, ↓reduceIte, Bool.false_eq_true, Nat.reduceEqDiff, Nat.reduceLT, Nat.reduceLeDiff, Nat.reduceAdd, Nat.reduceMul, Nat.reduceSub, Nat.reducePow, Nat.add_sub_cancel, Nat.zero_le, Nat.not_lt_zero, Nat.le_refl, Nat.lt_irrefl, l_0, l_1, l_2, l_3, l_4, l_5, l_6, l_7, l_8, l_9, l_10, l_13, l_14, l_16, l_20, l_24, l_26, l_30, l_31, l_32, l_48, l_57, l_59, l_63, l_96, l_97, l_100, l_122, l_200, l_255, l_256, l_270, l_400, l_429, l_526, l_780, l_800, l_926, l_1726, l_12082]
theorem k_noRoom (p l le nw od : Nat → Nat) (z wid n : Nat) (hw : wid ≤ 8) (hn : n ≤ 256) : J_X1_hasNoRoom (dN p l le nw od z wid n) = some (nI (if n < 2 ^ wid then 0 else 1)) := by
  have h2 := pow_le8 wid hw
  unfold J_X1_hasNoRoom
  rw [k_room p l le nw od z wid n hw]
  simp (disch := first | omega | assumption) only [d_prefix, d_lastSymbol, d_lengths, d_newest, d_older, d_alphabet, d_widest, d_count, mkD, dN, nq_neg, nq_fix, nq_sub1, nq_addN, nq_add, nq_mul, nq_sub, nq_ltN, nq_Nlt, nq_leN, nq_Nle, nq_lt, nq_le, nq_eq, nq_div, nq_pow, nq_tn, rd_W, wr_W, nS_eq, nS_ne, Option.bind_some, Option.bind_none, ↓reduceIte, Bool.false_eq_true, Nat.reduceEqDiff, Nat.reduceLT, Nat.reduceLeDiff, Nat.reduceAdd, Nat.reduceMul, Nat.reduceSub, Nat.reducePow, Nat.add_sub_cancel, Nat.zero_le, Nat.not_lt_zero, Nat.le_refl, Nat.lt_irrefl, l_0, l_1, l_2, l_3, l_4, l_5, l_6, l_7, l_8, l_9, l_10, l_13, l_14, l_16, l_20, l_24, l_26, l_30, l_31, l_32, l_48, l_57, l_59, l_63, l_96, l_97, l_100, l_122, l_200, l_255, l_256, l_270, l_400, l_429, l_526, l_780, l_800, l_926, l_1726, l_12082]
  split <;> rfl
theorem k_widthCodes (fu : Nat) (hf : 300 ≤ fu) (p l le nw od : Nat → Nat) (z wid n : Nat) (hn : n ≤ 256) : J_X1_widthOfCodes fu (dN p l le nw od z wid n) = some (nI (bw n)) := by
  unfold J_X1_widthOfCodes
  have e := k_widthFor fu n hn (by omega)
  simp (disch := first | omega | assumption) only [d_prefix, d_lastSymbol, d_lengths, d_newest, d_older, d_alphabet, d_widest, d_count, mkD, dN, nq_neg, nq_fix, nq_sub1, nq_addN, nq_add, nq_mul, nq_sub, nq_ltN, nq_Nlt, nq_leN, nq_Nle, nq_lt, nq_le, nq_eq, nq_div, nq_pow, nq_tn, rd_W, wr_W, nS_eq, nS_ne, Option.bind_some, Option.bind_none, ↓reduceIte, Bool.false_eq_true, Nat.reduceEqDiff, Nat.reduceLT, Nat.reduceLeDiff, Nat.reduceAdd, Nat.reduceMul, Nat.reduceSub, Nat.reducePow, Nat.add_sub_cancel, Nat.zero_le, Nat.not_lt_zero, Nat.le_refl, Nat.lt_irrefl, l_0, l_1, l_2, l_3, l_4, l_5, l_6, l_7, l_8, l_9, l_10, l_13, l_14, l_16, l_20, l_24, l_26, l_30, l_31, l_32, l_48, l_57, l_59, l_63, l_96, l_97, l_100, l_122, l_200, l_255, l_256, l_270, l_400, l_429, l_526, l_780, l_800, l_926, l_1726, l_12082, e]
theorem k_widthSymbols (fu : Nat) (hf : 300 ≤ fu) (p l le nw od : Nat → Nat) (z wid n : Nat) (hn : z ≤ 256) : J_X1_widthOfSymbols fu (dN p l le nw od z wid n) = some (nI (bw z)) := by
  unfold J_X1_widthOfSymbols
  have e := k_widthFor fu z hn (by omega)
  simp (disch := first | omega | assumption) only [d_prefix, d_lastSymbol, d_lengths, d_newest, d_older, d_alphabet, d_widest, d_count, mkD, dN, nq_neg, nq_fix, nq_sub1, nq_addN, nq_add, nq_mul, nq_sub, nq_ltN, nq_Nlt, nq_leN, nq_Nle, nq_lt, nq_le, nq_eq, nq_div, nq_pow, nq_tn, rd_W, wr_W, nS_eq, nS_ne, Option.bind_some, Option.bind_none, ↓reduceIte, Bool.false_eq_true, Nat.reduceEqDiff, Nat.reduceLT, Nat.reduceLeDiff, Nat.reduceAdd, Nat.reduceMul, Nat.reduceSub, Nat.reducePow, Nat.add_sub_cancel, Nat.zero_le, Nat.not_lt_zero, Nat.le_refl, Nat.lt_irrefl, l_0, l_1, l_2, l_3, l_4, l_5, l_6, l_7, l_8, l_9, l_10, l_13, l_14, l_16, l_20, l_24, l_26, l_30, l_31, l_32, l_48, l_57, l_59, l_63, l_96, l_97, l_100, l_122, l_200, l_255, l_256, l_270, l_400, l_429, l_526, l_780, l_800, l_926, l_1726, l_12082, e]
theorem WD_add {z n : Nat} {P L : Nat → Nat} (h : WD z n P L) {c s : Nat} (hc : c < n) (hcz : c ≠ z) (hs : s < z) : WD z (n + 1) (nS P n c) (nS L n s) := by
  intro k h1 h2
  by_cases h3 : k = n
  · subst h3
    rw [nS_eq, nS_eq]
    exact ⟨hc, hcz, hs⟩
  · rw [nS_ne _ _ _ _ h3, nS_ne _ _ _ _ h3]
    exact h k h1 (by omega)
theorem UD_add {z n : Nat} {P L : Nat → Nat} (h : UD z n P L) {c s : Nat} (hk : kidS z P L c s n = 4294967295) (hn : n < 4294967295) : UD z (n + 1) (nS P n c) (nS L n s) := by
  intro j k h1 h2 h3
  have h5 : nS P n c j = P j := nS_ne _ _ _ _ (by omega)
  have h6 : nS L n s j = L j := nS_ne _ _ _ _ (by omega)
  rw [h5, h6]
  by_cases h4 : k = n
  · subst h4
    rw [nS_eq, nS_eq]
    rcases kidS_cases z P L c s k with ⟨_, h⟩ | ⟨_, h, _⟩
    · exact h j h1 h2
    · omega
  · rw [nS_ne _ _ _ _ h4, nS_ne _ _ _ _ h4]
    exact h j k h1 h2 (by omega)
theorem ph_add {z n : Nat} {P L : Nat → Nat} (h : WD z n P L) (c s : Nat) : ∀ k, k < n → ph z (nS P n c) (nS L n s) k = ph z P L k :=
  ph_congr h (fun k _ h2 => nS_ne _ _ _ _ (by omega)) (fun k _ h2 => nS_ne _ _ _ _ (by omega))
theorem ph_new {z n : Nat} {P L : Nat → Nat} (h : WD z n P L) {c s : Nat} (hzn : z < n) (hc : c < n) (hcz : c ≠ z) (hs : s < z) : ph z (nS P n c) (nS L n s) n = ph z P L c ++ [s] := by
  rw [ph_gt (WD_add h hc hcz hs) hzn (Nat.lt_succ_self n), nS_eq, nS_eq, ph_add h c s c hc]
theorem kidN_add {z n : Nat} {P : Nat → Nat} {c : Nat} (x : Nat) : ∀ m, m ≤ n → kidN z (nS P n x) c m = kidN z P c m := by
  intro m
  induction m with
  | zero => intro _; rfl
  | succ m ih =>
    intro h
    show (if z < m ∧ nS P n x m = c then m else kidN z (nS P n x) c m) = (if z < m ∧ P m = c then m else kidN z P c m)
    rw [nS_ne _ _ _ _ (by omega), ih (by omega)]
theorem k_addLonger (p l le nw od : Nat → Nat) (z wid n : Nat) (P L : Nat → Nat) (h : RD p l le nw od z n P L) (wd : WD z n P L) (hzn : z < n) (hn : n < 256) (c s : Nat) (hc : c < n) (hcz : c ≠ z) (hs : s < z) :
    ∃ p' l' le' nw' od', J_X1_addLonger (dN p l le nw od z wid n) (nI c) (nI s) = some (nI n, dN p' l' le' nw' od' z wid (n + 1)) ∧ RD p' l' le' nw' od' z (n + 1) (nS P n c) (nS L n s) := by
  obtain ⟨r1, r2, r3, r4, r5, r6, r7, r8⟩ := id h
  refine ⟨nS p n c, nS l n s, nS le n ((ph z P L c).length + 1), nS (nS nw n 4294967295) c n, nS od n (kidN z P c n), ?_, ?_⟩
  · unfold J_X1_addLonger
    have e1 := k_lengthOf p l le nw od z wid n P L h (by omega) c hc
    have e2 := k_define p l le nw od z wid n n c s ((ph z P L c).length + 1) hn
    have e3 := k_at 256 (nS nw n 4294967295) c (by omega) (by omega)
    have e4 := k_put 256 od n (kidN z P c n) (by omega) (by omega)
    have e5 := k_put 256 (nS nw n 4294967295) c n (by omega) (by omega)
    rw [nS_ne _ _ _ _ (show c ≠ n by omega), r7 c hc] at e3
    rw [e1]
    simp only [d_prefix, d_lastSymbol, d_lengths, d_newest, d_older, d_alphabet, d_widest, d_count, mkD, dN] at e2 ⊢
    simp (disch := first | omega | assumption) only [nq_neg, nq_fix, nq_sub1, nq_addN, nq_add, nq_mul, nq_sub, nq_ltN, nq_Nlt, nq_leN, nq_Nle, nq_lt, nq_le, nq_eq, nq_div, nq_pow, nq_tn, rd_W, wr_W, nS_eq, nS_ne, Option.bind_some, Option.bind_none, ↓reduceIte, Bool.false_eq_true, Nat.reduceEqDiff, Nat.reduceLT, Nat.reduceLeDiff, Nat.reduceAdd, Nat.reduceMul, Nat.reduceSub, Nat.reducePow, Nat.add_sub_cancel, Nat.zero_le, Nat.not_lt_zero, Nat.le_refl, Nat.lt_irrefl, l_0, l_1, l_2, l_3, l_4, l_5, l_6, l_7, l_8, l_9, l_10, l_13, l_14, l_16, l_20, l_24, l_26, l_30, l_31, l_32, l_48, l_57, l_59, l_63, l_96, l_97, l_100, l_122, l_200, l_255, l_256, l_270, l_400, l_429, l_526, l_780, l_800, l_926, l_1726, l_12082, e2, e3, e4, e5]
  · have hx : ∀ k, k < n → ph z (nS P n c) (nS L n s) k = ph z P L k := ph_add wd c s
    refine ⟨fun k hk => ?_, fun k h1 h2 => ?_, fun k hk => ?_, ?_, fun k h1 h2 => ?_, fun k hk => ?_, fun k hk => ?_, fun k h1 h2 => ?_⟩
    · rw [nS_ne _ _ _ _ (by omega)]; exact r1 k hk
    · by_cases h3 : k = n
      · subst h3; rw [nS_eq, nS_eq]
      · rw [nS_ne _ _ _ _ h3, nS_ne _ _ _ _ h3]; exact r2 k h1 (by omega)
    · rw [nS_ne _ _ _ _ (by omega)]; exact r3 k hk
    · rw [nS_ne _ _ _ _ (by omega)]; exact r4
    · by_cases h3 : k = n
      · subst h3; rw [nS_eq, nS_eq]
      · rw [nS_ne _ _ _ _ h3, nS_ne _ _ _ _ h3]; exact r5 k h1 (by omega)
    · by_cases h3 : k = n
      · subst h3; rw [nS_eq, ph_new wd hzn hc hcz hs, List.length_append]; rfl
      · rw [nS_ne _ _ _ _ h3, hx k (by omega)]; exact r6 k (by omega)
    · show _ = (if z < n ∧ nS P n c n = k then n else kidN z (nS P n c) k n)
      rw [nS_eq, kidN_add c n (Nat.le_refl _)]
      by_cases h3 : k = c
      · subst h3; rw [nS_eq, if_pos ⟨hzn, rfl⟩]
      · rw [nS_ne _ _ _ _ h3, if_neg (fun hh => h3 hh.2.symm)]
        by_cases h4 : k = n
        · subst h4
          rw [nS_eq]
          exact (kidN_none k fun j h5 h6 h7 => by have := wd j h5 h6; omega).symm
        · rw [nS_ne _ _ _ _ h4]; exact r7 k (by omega)
    · by_cases h3 : k = n
      · subst h3; rw [nS_eq, nS_eq, kidN_add c k (Nat.le_refl _)]
      · rw [nS_ne _ _ _ _ h3, nS_ne _ _ _ _ h3, kidN_add c k (by omega)]; exact r8 k h1 (by omega)
theorem k_count_b (fu : Nat) (p l le nw od : Nat → Nat) (z wid n : Nat) (P L : Nat → Nat) (h : RD p l le nw od z n P L) (wd : WD z n P L) (ud : UD z n P L) (hz : z < 256) (hn : n ≤ 256) (c : Nat) :
    ∀ f m seen, m ≤ n → m < f → kidC z P c n = seen + kidC z P c m →
      J_X1_countLonger_b11 fu (dN p l le nw od z wid n) f (nI seen) (nI (kidN z P c m)) = some (nI (kidC z P c n)) := by
  intro f
  obtain ⟨r1, r2, r3, r4, r5, r6, r7, r8⟩ := h
  have hle := kidC_le wd ud c
  induction f with
  | zero => intro m seen h1 h2; omega
  | succ f ih =>
    intro m seen h1 h2 h3
    unfold J_X1_countLonger_b11
    rcases kidN_cases z P c m with ⟨h5, h6⟩ | ⟨h5, h6, h7, h8⟩
    · have h9 := kidC_zero (z := z) (P := P) (c := c) m (by omega) h5
      rw [h5, show kidC z P c n = seen by omega]
      simp (disch := first | omega | assumption) only [d_prefix, d_lastSymbol, d_lengths, d_newest, d_older, d_alphabet, d_widest, d_count, mkD, dN, nq_neg, nq_fix, nq_sub1, nq_addN, nq_add, nq_mul, nq_sub, nq_ltN, nq_Nlt, nq_leN, nq_Nle, nq_lt, nq_le, nq_eq, nq_div, nq_pow, nq_tn, rd_W, wr_W, nS_eq, nS_ne, Option.bind_some, Option.bind_none, ↓reduceIte, Bool.false_eq_true, Nat.reduceEqDiff, Nat.reduceLT, Nat.reduceLeDiff, Nat.reduceAdd, Nat.reduceMul, Nat.reduceSub, Nat.reducePow, Nat.add_sub_cancel, Nat.zero_le, Nat.not_lt_zero, Nat.le_refl, Nat.lt_irrefl, l_0, l_1, l_2, l_3, l_4, l_5, l_6, l_7, l_8, l_9, l_10, l_13, l_14, l_16, l_20, l_24, l_26, l_30, l_31, l_32, l_48, l_57, l_59, l_63, l_96, l_97, l_100, l_122, l_200, l_255, l_256, l_270, l_400, l_429, l_526, l_780, l_800, l_926, l_1726, l_12082, ite_self]
    · have h9 := kidC_step (z := z) (P := P) (c := c) m (by omega)
      have h12 := r8 (kidN z P c m) h5 (by omega)
      have e2 := k_at 256 od (kidN z P c m) (by omega) (by omega)
      simp (disch := first | omega | assumption) only [d_prefix, d_lastSymbol, d_lengths, d_newest, d_older, d_alphabet, d_widest, d_count, mkD, dN, nq_neg, nq_fix, nq_sub1, nq_addN, nq_add, nq_mul, nq_sub, nq_ltN, nq_Nlt, nq_leN, nq_Nle, nq_lt, nq_le, nq_eq, nq_div, nq_pow, nq_tn, rd_W, wr_W, nS_eq, nS_ne, Option.bind_some, Option.bind_none, ↓reduceIte, Bool.false_eq_true, Nat.reduceEqDiff, Nat.reduceLT, Nat.reduceLeDiff, Nat.reduceAdd, Nat.reduceMul, Nat.reduceSub, Nat.reducePow, Nat.add_sub_cancel, Nat.zero_le, Nat.not_lt_zero, Nat.le_refl, Nat.lt_irrefl, l_0, l_1, l_2, l_3, l_4, l_5, l_6, l_7, l_8, l_9, l_10, l_13, l_14, l_16, l_20, l_24, l_26, l_30, l_31, l_32, l_48, l_57, l_59, l_63, l_96, l_97, l_100, l_122, l_200, l_255, l_256, l_270, l_400, l_429, l_526, l_780, l_800, l_926, l_1726, l_12082, show ¬ (z ≤ seen) by omega, show ¬ (kidN z P c m = 4294967295) by omega, e2, h12]
      rw [h7]
      exact ih (kidN z P c m) (seen + 1) (by omega) (by omega) (by omega)
theorem k_countLonger (fu : Nat) (hf : 300 ≤ fu) (p l le nw od : Nat → Nat) (z wid n : Nat) (P L : Nat → Nat) (h : RD p l le nw od z n P L) (wd : WD z n P L) (ud : UD z n P L) (hz : z < 256) (hn : n ≤ 256) (c : Nat) (hc : c < n) :
    J_X1_countLonger fu (dN p l le nw od z wid n) (nI c) = some (nI (kidC z P c n)) := by
  unfold J_X1_countLonger
  have e := k_at 256 nw c (by omega) (by omega)
  rw [h.2.2.2.2.2.2.1 c hc] at e
  have h1 := k_count_b fu p l le nw od z wid n P L h wd ud hz hn c fu n 0 (Nat.le_refl _) (by omega) (by omega)
  simp (disch := first | omega | assumption) only [d_prefix, d_lastSymbol, d_lengths, d_newest, d_older, d_alphabet, d_widest, d_count, mkD, dN, nq_neg, nq_fix, nq_sub1, nq_addN, nq_add, nq_mul, nq_sub, nq_ltN, nq_Nlt, nq_leN, nq_Nle, nq_lt, nq_le, nq_eq, nq_div, nq_pow, nq_tn, rd_W, wr_W, nS_eq, nS_ne, Option.bind_some, Option.bind_none, ↓reduceIte, Bool.false_eq_true, Nat.reduceEqDiff, Nat.reduceLT, Nat.reduceLeDiff, Nat.reduceAdd, Nat.reduceMul, Nat.reduceSub, Nat.reducePow, Nat.add_sub_cancel, Nat.zero_le, Nat.not_lt_zero, Nat.le_refl, Nat.lt_irrefl, l_0, l_1, l_2, l_3, l_4, l_5, l_6, l_7, l_8, l_9, l_10, l_13, l_14, l_16, l_20, l_24, l_26, l_30, l_31, l_32, l_48, l_57, l_59, l_63, l_96, l_97, l_100, l_122, l_200, l_255, l_256, l_270, l_400, l_429, l_526, l_780, l_800, l_926, l_1726, l_12082, e] at h1 ⊢
  exact h1
/-! the class's dictionary: phrases spelt, copies -/
theorem gd_l (A : List Nat) (x i : Nat) (h : i < A.length) : (A ++ [x]).getD i 0 = A.getD i 0 := by
  rw [List.getD_eq_getElem?_getD, List.getD_eq_getElem?_getD, List.getElem?_append_left h]
theorem gd_r (A : List Nat) (x : Nat) : (A ++ [x]).getD A.length 0 = x := by
  rw [List.getD_eq_getElem?_getD, List.getElem?_append_right (Nat.le_refl _), Nat.sub_self]
  rfl
theorem k_symbol_b (fu : Nat) (p l le nw od : Nat → Nat) (z wid n : Nat) (P L : Nat → Nat) (h : RD p l le nw od z n P L) (wd : WD z n P L) (hn : n ≤ 256) (i : Nat) :
    ∀ f c, c < n → c ≠ z → c < f → i < (ph z P L c).length → J_X1_symbolOf_b11 fu (dN p l le nw od z wid n) f (nI i) (nI c) (nI ((ph z P L c).length - 1)) = some (nI ((ph z P L c).getD i 0)) := by
  intro f
  obtain ⟨r1, r2, r3, r4, r5, r6, r7, r8⟩ := h
  induction f with
  | zero => intro c _ _ h1; omega
  | succ f ih =>
    intro c hc hz hf hi
    have hl := ph_le wd c hc
    have e1 := k_at 256 l c (by omega) (by omega)
    have e2 := k_at 256 p c (by omega) (by omega)
    unfold J_X1_symbolOf_b11
    rcases Nat.lt_trichotomy c z with h3 | h3 | h3
    · rw [ph_lt h3] at hi ⊢
      have h4 : i = 0 := by simp only [List.length_cons, List.length_nil] at hi; omega
      subst h4
      rw [r3 c h3] at e1
      simp (disch := first | omega | assumption) only [d_prefix, d_lastSymbol, d_lengths, d_newest, d_older, d_alphabet, d_widest, d_count, mkD, dN, nq_neg, nq_fix, nq_sub1, nq_addN, nq_add, nq_mul, nq_sub, nq_ltN, nq_Nlt, nq_leN, nq_Nle, nq_lt, nq_le, nq_eq, nq_div, nq_pow, nq_tn, rd_W, wr_W, nS_eq, nS_ne, Option.bind_some, Option.bind_none, ↓reduceIte, Bool.false_eq_true, Nat.reduceEqDiff, Nat.reduceLT, Nat.reduceLeDiff, Nat.reduceAdd, Nat.reduceMul, Nat.reduceSub, Nat.reducePow, Nat.add_sub_cancel, Nat.zero_le, Nat.not_lt_zero, Nat.le_refl, Nat.lt_irrefl, l_0, l_1, l_2, l_3, l_4, l_5, l_6, l_7, l_8, l_9, l_10, l_13, l_14, l_16, l_20, l_24, l_26, l_30, l_31, l_32, l_48, l_57, l_59, l_63, l_96, l_97, l_100, l_122, l_200, l_255, l_256, l_270, l_400, l_429, l_526, l_780, l_800, l_926, l_1726, l_12082, List.length_cons, List.length_nil, e1]
      rfl
    · exact absurd h3 hz
    · have h4 := wd c h3 hc
      rw [r5 c h3 hc] at e1
      rw [r2 c h3 hc] at e2
      have h5 := ih (P c) (by omega) h4.2.1 (by omega)
      rw [ph_gt wd h3 hc] at hi hl ⊢
      rw [List.length_append] at hi hl ⊢
      simp only [List.length_cons, List.length_nil] at hi hl ⊢
      have h7 := ph_pos wd (show P c < n by omega) h4.2.1
      simp (disch := first | omega | assumption) only [d_prefix, d_lastSymbol, d_lengths, d_newest, d_older, d_alphabet, d_widest, d_count, mkD, dN, nq_neg, nq_fix, nq_sub1, nq_addN, nq_add, nq_mul, nq_sub, nq_ltN, nq_Nlt, nq_leN, nq_Nle, nq_lt, nq_le, nq_eq, nq_div, nq_pow, nq_tn, rd_W, wr_W, nS_eq, nS_ne, Option.bind_some, Option.bind_none, ↓reduceIte, Bool.false_eq_true, Nat.reduceEqDiff, Nat.reduceLT, Nat.reduceLeDiff, Nat.reduceAdd, Nat.reduceMul, Nat.reduceSub, Nat.reducePow, Nat.add_sub_cancel, Nat.zero_le, Nat.not_lt_zero, Nat.le_refl, Nat.lt_irrefl, l_0, l_1, l_2, l_3, l_4, l_5, l_6, l_7, l_8, l_9, l_10, l_13, l_14, l_16, l_20, l_24, l_26, l_30, l_31, l_32, l_48, l_57, l_59, l_63, l_96, l_97, l_100, l_122, l_200, l_255, l_256, l_270, l_400, l_429, l_526, l_780, l_800, l_926, l_1726, l_12082, e1, e2] at h5 ⊢
      by_cases h6 : i = (ph z P L (P c)).length
      · rw [if_pos (by omega), h6, gd_r]
      · rw [if_neg (by omega), gd_l _ _ _ (by omega)]
        exact h5 (by omega)
theorem k_symbolOf (fu : Nat) (hf : 300 ≤ fu) (p l le nw od : Nat → Nat) (z wid n : Nat) (P L : Nat → Nat) (h : RD p l le nw od z n P L) (wd : WD z n P L) (hn : n ≤ 256) (c i : Nat) (hc : c < n) (hz : c ≠ z) (hi : i < (ph z P L c).length) :
    J_X1_symbolOf fu (dN p l le nw od z wid n) (nI c) (nI i) = some (nI ((ph z P L c).getD i 0)) := by
  have hp := ph_pos wd hc hz
  have hl := ph_le wd c hc
  unfold J_X1_symbolOf
  rw [k_lengthOf p l le nw od z wid n P L h hn c hc]
  simp (disch := first | omega | assumption) only [nq_neg, nq_fix, nq_sub1, nq_addN, nq_add, nq_mul, nq_sub, nq_ltN, nq_Nlt, nq_leN, nq_Nle, nq_lt, nq_le, nq_eq, nq_div, nq_pow, nq_tn, rd_W, wr_W, nS_eq, nS_ne, Option.bind_some, Option.bind_none, ↓reduceIte, Bool.false_eq_true, Nat.reduceEqDiff, Nat.reduceLT, Nat.reduceLeDiff, Nat.reduceAdd, Nat.reduceMul, Nat.reduceSub, Nat.reducePow, Nat.add_sub_cancel, Nat.zero_le, Nat.not_lt_zero, Nat.le_refl, Nat.lt_irrefl, l_0, l_1, l_2, l_3, l_4, l_5, l_6, l_7, l_8, l_9, l_10, l_13, l_14, l_16, l_20, l_24, l_26, l_30, l_31, l_32, l_48, l_57, l_59, l_63, l_96, l_97, l_100, l_122, l_200, l_255, l_256, l_270, l_400, l_429, l_526, l_780, l_800, l_926, l_1726, l_12082]
  exact k_symbol_b fu p l le nw od z wid n P L h wd hn i fu c hc hz (by omega) hi
def spl (r : Nat → Nat) (a : Nat) (A : List Nat) : Nat → Nat := fun j => if a ≤ j ∧ j < a + A.length then A.getD (j - a) 0 else r j
theorem spl_app (r : Nat → Nat) (a : Nat) (A : List Nat) (x : Nat) : spl (nS r (a + A.length) x) a A = spl r a (A ++ [x]) := by
  funext j
  show (if a ≤ j ∧ j < a + A.length then A.getD (j - a) 0 else nS r (a + A.length) x j) = (if a ≤ j ∧ j < a + (A ++ [x]).length then (A ++ [x]).getD (j - a) 0 else r j)
  rw [List.length_append]
  simp only [List.length_cons, List.length_nil]
  by_cases h1 : a ≤ j ∧ j < a + A.length
  · rw [if_pos h1, if_pos ⟨h1.1, by omega⟩, gd_l _ _ _ (by omega)]
  · rw [if_neg h1]
    by_cases h2 : j = a + A.length
    · subst h2
      rw [nS_eq, if_pos ⟨by omega, by omega⟩, Nat.add_sub_cancel_left, gd_r]
    · rw [nS_ne _ _ _ _ h2, if_neg (by omega)]
theorem spl_one (r : Nat → Nat) (a x : Nat) : nS r a x = spl r a [x] := by
  have := spl_app r a [] x
  simp only [List.length_nil, Nat.add_zero, List.nil_append] at this
  rw [← this]
  funext j
  exact (if_neg (fun h => by have := h.1; have := h.2; simp only [List.length_nil] at this; omega)).symm
theorem k_spell_b (fu : Nat) (p l le nw od : Nat → Nat) (z wid n : Nat) (P L : Nat → Nat) (h : RD p l le nw od z n P L) (wd : WD z n P L) (hn : n ≤ 256) (N a : Nat) (hN : N < 100000) :
    ∀ f c r, c < n → c ≠ z → c + 1 < f → a + (ph z P L c).length ≤ N → J_X1_spell_b12 fu (dN p l le nw od z wid n) N f (nW r) (nI a) (nI c) (nI ((ph z P L c).length - 1)) = some (nW (spl r a (ph z P L c))) := by
  intro f
  obtain ⟨r1, r2, r3, r4, r5, r6, r7, r8⟩ := h
  induction f with
  | zero => intro c r _ _ h1; omega
  | succ f ih =>
    intro c r hc hz hf hi
    have hl := ph_le wd c hc
    have e1 := k_at 256 l c (by omega) (by omega)
    have e2 := k_at 256 p c (by omega) (by omega)
    unfold J_X1_spell_b12
    rcases Nat.lt_trichotomy c z with h3 | h3 | h3
    · rw [ph_lt h3] at hi ⊢
      simp only [List.length_cons, List.length_nil] at hi ⊢
      rw [r3 c h3] at e1
      rw [r1 c (by omega)] at e2
      have e3 := k_put N r a c (by omega) (by omega)
      cases f with
      | zero => omega
      | succ f =>
        unfold J_X1_spell_b12
        simp (disch := first | omega | assumption) only [d_prefix, d_lastSymbol, d_lengths, d_newest, d_older, d_alphabet, d_widest, d_count, mkD, dN, nq_neg, nq_fix, nq_sub1, nq_addN, nq_add, nq_mul, nq_sub, nq_ltN, nq_Nlt, nq_leN, nq_Nle, nq_lt, nq_le, nq_eq, nq_div, nq_pow, nq_tn, rd_W, wr_W, nS_eq, nS_ne, Option.bind_some, Option.bind_none, ↓reduceIte, Bool.false_eq_true, Nat.reduceEqDiff, Nat.reduceLT, Nat.reduceLeDiff, Nat.reduceAdd, Nat.reduceMul, Nat.reduceSub, Nat.reducePow, Nat.add_sub_cancel, Nat.zero_le, Nat.not_lt_zero, Nat.le_refl, Nat.lt_irrefl, l_0, l_1, l_2, l_3, l_4, l_5, l_6, l_7, l_8, l_9, l_10, l_13, l_14, l_16, l_20, l_24, l_26, l_30, l_31, l_32, l_48, l_57, l_59, l_63, l_96, l_97, l_100, l_122, l_200, l_255, l_256, l_270, l_400, l_429, l_526, l_780, l_800, l_926, l_1726, l_12082, e1, e2, Nat.add_zero, e3, spl_one]
    · exact absurd h3 hz
    · have h4 := wd c h3 hc
      rw [r5 c h3 hc] at e1
      rw [r2 c h3 hc] at e2
      have h7 := ph_pos wd (show P c < n by omega) h4.2.1
      have h5 := ih (P c) (nS r (a + (ph z P L (P c)).length) (L c)) (by omega) h4.2.1 (by omega)
      rw [ph_gt wd h3 hc] at hi hl ⊢
      rw [List.length_append] at hi hl ⊢
      simp only [List.length_cons, List.length_nil] at hi hl ⊢
      have e3 := k_put N r (a + (ph z P L (P c)).length) (L c) (by omega) (by omega)
      rw [spl_app] at h5
      simp (disch := first | omega | assumption) only [d_prefix, d_lastSymbol, d_lengths, d_newest, d_older, d_alphabet, d_widest, d_count, mkD, dN, nq_neg, nq_fix, nq_sub1, nq_addN, nq_add, nq_mul, nq_sub, nq_ltN, nq_Nlt, nq_leN, nq_Nle, nq_lt, nq_le, nq_eq, nq_div, nq_pow, nq_tn, rd_W, wr_W, nS_eq, nS_ne, Option.bind_some, Option.bind_none, ↓reduceIte, Bool.false_eq_true, Nat.reduceEqDiff, Nat.reduceLT, Nat.reduceLeDiff, Nat.reduceAdd, Nat.reduceMul, Nat.reduceSub, Nat.reducePow, Nat.add_sub_cancel, Nat.zero_le, Nat.not_lt_zero, Nat.le_refl, Nat.lt_irrefl, l_0, l_1, l_2, l_3, l_4, l_5, l_6, l_7, l_8, l_9, l_10, l_13, l_14, l_16, l_20, l_24, l_26, l_30, l_31, l_32, l_48, l_57, l_59, l_63, l_96, l_97, l_100, l_122, l_200, l_255, l_256, l_270, l_400, l_429, l_526, l_780, l_800, l_926, l_1726, l_12082, e1, e2, e3] at h5 ⊢
      exact h5 (by omega)
theorem k_spell (fu : Nat) (hf : 300 ≤ fu) (p l le nw od : Nat → Nat) (z wid n : Nat) (P L : Nat → Nat) (h : RD p l le nw od z n P L) (wd : WD z n P L) (hn : n ≤ 256) (N a c : Nat) (r : Nat → Nat) (hN : N < 100000) (hc : c < n) (hz : c ≠ z) (hi : a + (ph z P L c).length ≤ N) :
    J_X1_spell fu (dN p l le nw od z wid n) (nI c) N (nW r) (nI a) = some (nW (spl r a (ph z P L c))) := by
  have hp := ph_pos wd hc hz
  have hl := ph_le wd c hc
  unfold J_X1_spell
  rw [k_lengthOf p l le nw od z wid n P L h hn c hc]
  simp (disch := first | omega | assumption) only [nq_neg, nq_fix, nq_sub1, nq_addN, nq_add, nq_mul, nq_sub, nq_ltN, nq_Nlt, nq_leN, nq_Nle, nq_lt, nq_le, nq_eq, nq_div, nq_pow, nq_tn, rd_W, wr_W, nS_eq, nS_ne, Option.bind_some, Option.bind_none, ↓reduceIte, Bool.false_eq_true, Nat.reduceEqDiff, Nat.reduceLT, Nat.reduceLeDiff, Nat.reduceAdd, Nat.reduceMul, Nat.reduceSub, Nat.reducePow, Nat.add_sub_cancel, Nat.zero_le, Nat.not_lt_zero, Nat.le_refl, Nat.lt_irrefl, l_0, l_1, l_2, l_3, l_4, l_5, l_6, l_7, l_8, l_9, l_10, l_13, l_14, l_16, l_20, l_24, l_26, l_30, l_31, l_32, l_48, l_57, l_59, l_63, l_96, l_97, l_100, l_122, l_200, l_255, l_256, l_270, l_400, l_429, l_526, l_780, l_800, l_926, l_1726, l_12082]
  exact k_spell_b fu p l le nw od z wid n P L h wd hn N a hN fu c r hc hz (by omega) hi
def nCp (f g : Nat → Nat) (n : Nat) : Nat → Nat := fun k => if k < n then f k else g k
theorem k_copy (N : Nat) (f g : Nat → Nat) (n : Nat) (h : n ≤ N) (hN : N < 100000) : J_X7_copyRow N (nW f) N (nW g) (nI n) = some (nW (nCp f g n)) := by
  unfold J_X7_copyRow
  simp (disch := first | omega | assumption) only [nq_neg, nq_fix, nq_sub1, nq_addN, nq_add, nq_mul, nq_sub, nq_ltN, nq_Nlt, nq_leN, nq_Nle, nq_lt, nq_le, nq_eq, nq_div, nq_pow, nq_tn, rd_W, wr_W, nS_eq, nS_ne, Option.bind_some, Option.bind_none, ↓reduceIte, Bool.false_eq_true, Nat.reduceEqDiff, Nat.reduceLT, Nat.reduceLeDiff, Nat.reduceAdd, Nat.reduceMul, Nat.reduceSub, Nat.reducePow, Nat.add_sub_cancel, Nat.zero_le, Nat.not_lt_zero, Nat.le_refl, Nat.lt_irrefl, l_0, l_1, l_2, l_3, l_4, l_5, l_6, l_7, l_8, l_9, l_10, l_13, l_14, l_16, l_20, l_24, l_26, l_30, l_31, l_32, l_48, l_57, l_59, l_63, l_96, l_97, l_100, l_122, l_200, l_255, l_256, l_270, l_400, l_429, l_526, l_780, l_800, l_926, l_1726, l_12082, ite_self, show ¬ (N < n) by omega]
  by_cases h1 : n = 0
  · subst h1
    simp (disch := first | omega | assumption) only [nq_neg, nq_fix, nq_sub1, nq_addN, nq_add, nq_mul, nq_sub, nq_ltN, nq_Nlt, nq_leN, nq_Nle, nq_lt, nq_le, nq_eq, nq_div, nq_pow, nq_tn, rd_W, wr_W, nS_eq, nS_ne, Option.bind_some, Option.bind_none, ↓reduceIte, Bool.false_eq_true, Nat.reduceEqDiff, Nat.reduceLT, Nat.reduceLeDiff, Nat.reduceAdd, Nat.reduceMul, Nat.reduceSub, Nat.reducePow, Nat.add_sub_cancel, Nat.zero_le, Nat.not_lt_zero, Nat.le_refl, Nat.lt_irrefl, l_0, l_1, l_2, l_3, l_4, l_5, l_6, l_7, l_8, l_9, l_10, l_13, l_14, l_16, l_20, l_24, l_26, l_30, l_31, l_32, l_48, l_57, l_59, l_63, l_96, l_97, l_100, l_122, l_200, l_255, l_256, l_270, l_400, l_429, l_526, l_780, l_800, l_926, l_1726, l_12082]
    rfl
  · rw [if_neg (by omega)]
    unfold j_cpy
    simp (disch := first | omega | assumption) only [nq_neg, nq_fix, nq_sub1, nq_addN, nq_add, nq_mul, nq_sub, nq_ltN, nq_Nlt, nq_leN, nq_Nle, nq_lt, nq_le, nq_eq, nq_div, nq_pow, nq_tn, rd_W, wr_W, nS_eq, nS_ne, Option.bind_some, Option.bind_none, ↓reduceIte, Bool.false_eq_true, Nat.reduceEqDiff, Nat.reduceLT, Nat.reduceLeDiff, Nat.reduceAdd, Nat.reduceMul, Nat.reduceSub, Nat.reducePow, Nat.add_sub_cancel, Nat.zero_le, Nat.not_lt_zero, Nat.le_refl, Nat.lt_irrefl, l_0, l_1, l_2, l_3, l_4, l_5, l_6, l_7, l_8, l_9, l_10, l_13, l_14, l_16, l_20, l_24, l_26, l_30, l_31, l_32, l_48, l_57, l_59, l_63, l_96, l_97, l_100, l_122, l_200, l_255, l_256, l_270, l_400, l_429, l_526, l_780, l_800, l_926, l_1726, l_12082, Nat.zero_add, show ¬ (N < n) by omega, or_self]
    refine congrArg some (funext fun k => ?_)
    show (if 0 ≤ k ∧ k < 0 + n then nI (f (0 + (k - 0))) else nI (g k)) = nI (if k < n then f k else g k)
    by_cases h2 : k < n
    · rw [if_pos ⟨by omega, by omega⟩, if_pos h2, Nat.zero_add, Nat.sub_zero]
    · rw [if_neg (by omega), if_neg h2]
theorem RD_congr {p l le nw od p' l' le' nw' od' : Nat → Nat} {z n : Nat} {P L : Nat → Nat} (h : RD p l le nw od z n P L) (hz : z < n)
    (e : ∀ k, k < n → p' k = p k ∧ l' k = l k ∧ le' k = le k ∧ nw' k = nw k ∧ od' k = od k) : RD p' l' le' nw' od' z n P L := by
  obtain ⟨r1, r2, r3, r4, r5, r6, r7, r8⟩ := h
  refine ⟨fun k hk => ?_, fun k h1 h2 => ?_, fun k hk => ?_, ?_, fun k h1 h2 => ?_, fun k hk => ?_, fun k hk => ?_, fun k h1 h2 => ?_⟩
  · rw [(e k (by omega)).1]; exact r1 k hk
  · rw [(e k (by omega)).1]; exact r2 k h1 h2
  · rw [(e k (by omega)).2.1]; exact r3 k hk
  · rw [(e z hz).2.1]; exact r4
  · rw [(e k (by omega)).2.1]; exact r5 k h1 h2
  · rw [(e k (by omega)).2.2.1]; exact r6 k hk
  · rw [(e k (by omega)).2.2.2.1]; exact r7 k hk
  · rw [(e k (by omega)).2.2.2.2]; exact r8 k h1 h2
theorem k_dcopy (p l le nw od p0 l0 le0 nw0 od0 : Nat → Nat) (z wid n z0 wid0 n0 : Nat) (hn : n ≤ 256) :
    J_X1_copyFrom (dN p0 l0 le0 nw0 od0 z0 wid0 n0) (dN p l le nw od z wid n) = some (dN (nCp p p0 n) (nCp l l0 n) (nCp le le0 n) (nCp nw nw0 n) (nCp od od0 n) z wid n) := by
  unfold J_X1_copyFrom
  have e := fun f g => k_copy 256 f g n hn (by omega)
  simp (disch := first | omega | assumption) only [d_prefix, d_lastSymbol, d_lengths, d_newest, d_older, d_alphabet, d_widest, d_count, mkD, dN, nq_neg, nq_fix, nq_sub1, nq_addN, nq_add, nq_mul, nq_sub, nq_ltN, nq_Nlt, nq_leN, nq_Nle, nq_lt, nq_le, nq_eq, nq_div, nq_pow, nq_tn, rd_W, wr_W, nS_eq, nS_ne, Option.bind_some, Option.bind_none, ↓reduceIte, Bool.false_eq_true, Nat.reduceEqDiff, Nat.reduceLT, Nat.reduceLeDiff, Nat.reduceAdd, Nat.reduceMul, Nat.reduceSub, Nat.reducePow, Nat.add_sub_cancel, Nat.zero_le, Nat.not_lt_zero, Nat.le_refl, Nat.lt_irrefl, l_0, l_1, l_2, l_3, l_4, l_5, l_6, l_7, l_8, l_9, l_10, l_13, l_14, l_16, l_20, l_24, l_26, l_30, l_31, l_32, l_48, l_57, l_59, l_63, l_96, l_97, l_100, l_122, l_200, l_255, l_256, l_270, l_400, l_429, l_526, l_780, l_800, l_926, l_1726, l_12082, e]
/-- the first of the greatest below m -/
def bst (f : Nat → Nat) : Nat → Nat
| 0 => 0
| m + 1 => if f (bst f m) < f m then m else bst f m
theorem bst_lt (f : Nat → Nat) (m : Nat) (h : 0 < m) : bst f m < m := by
  induction m with
  | zero => omega
  | succ m ih =>
    show (if f (bst f m) < f m then m else bst f m) < m + 1
    split
    · omega
    · by_cases h1 : m = 0
      · subst h1; exact Nat.zero_lt_one
      · have := ih (by omega); omega
theorem k_long_b (fu : Nat) (p l le nw od : Nat → Nat) (z wid n : Nat) (P L : Nat → Nat) (h : RD p l le nw od z n P L) (wd : WD z n P L) (hn : n ≤ 256) :
    ∀ f m, 1 ≤ m → m ≤ n → n < f + m → J_X1_firstLongest_b4 fu (dN p l le nw od z wid n) f (nI (bst (fun c => (ph z P L c).length) m)) (nI m) = some (nI (bst (fun c => (ph z P L c).length) n)) := by
  intro f
  induction f with
  | zero => intro m _ h1 h2; omega
  | succ f ih =>
    intro m h0 h1 h2
    unfold J_X1_firstLongest_b4
    have hb := bst_lt (fun c => (ph z P L c).length) m (by omega)
    by_cases h3 : m = n
    · subst h3
      simp (disch := first | omega | assumption) only [d_prefix, d_lastSymbol, d_lengths, d_newest, d_older, d_alphabet, d_widest, d_count, mkD, dN, nq_neg, nq_fix, nq_sub1, nq_addN, nq_add, nq_mul, nq_sub, nq_ltN, nq_Nlt, nq_leN, nq_Nle, nq_lt, nq_le, nq_eq, nq_div, nq_pow, nq_tn, rd_W, wr_W, nS_eq, nS_ne, Option.bind_some, Option.bind_none, ↓reduceIte, Bool.false_eq_true, Nat.reduceEqDiff, Nat.reduceLT, Nat.reduceLeDiff, Nat.reduceAdd, Nat.reduceMul, Nat.reduceSub, Nat.reducePow, Nat.add_sub_cancel, Nat.zero_le, Nat.not_lt_zero, Nat.le_refl, Nat.lt_irrefl, l_0, l_1, l_2, l_3, l_4, l_5, l_6, l_7, l_8, l_9, l_10, l_13, l_14, l_16, l_20, l_24, l_26, l_30, l_31, l_32, l_48, l_57, l_59, l_63, l_96, l_97, l_100, l_122, l_200, l_255, l_256, l_270, l_400, l_429, l_526, l_780, l_800, l_926, l_1726, l_12082]
    · have e1 := k_lengthOf p l le nw od z wid n P L h hn m (by omega)
      have e2 := k_lengthOf p l le nw od z wid n P L h hn (bst (fun c => (ph z P L c).length) m) (by omega)
      have h4 := ih (m + 1) (by omega) (by omega) (by omega)
      have h5 := ph_le wd m (by omega)
      have h6 := ph_le wd (bst (fun c => (ph z P L c).length) m) (by omega)
      rw [show bst (fun c => (ph z P L c).length) (m + 1) = if (ph z P L (bst (fun c => (ph z P L c).length) m)).length < (ph z P L m).length then m else bst (fun c => (ph z P L c).length) m from rfl] at h4
      simp (disch := first | omega | assumption) only [d_prefix, d_lastSymbol, d_lengths, d_newest, d_older, d_alphabet, d_widest, d_count, mkD, dN, nq_neg, nq_fix, nq_sub1, nq_addN, nq_add, nq_mul, nq_sub, nq_ltN, nq_Nlt, nq_leN, nq_Nle, nq_lt, nq_le, nq_eq, nq_div, nq_pow, nq_tn, rd_W, wr_W, nS_eq, nS_ne, Option.bind_some, Option.bind_none, ↓reduceIte, Bool.false_eq_true, Nat.reduceEqDiff, Nat.reduceLT, Nat.reduceLeDiff, Nat.reduceAdd, Nat.reduceMul, Nat.reduceSub, Nat.reducePow, Nat.add_sub_cancel, Nat.zero_le, Nat.not_lt_zero, Nat.le_refl, Nat.lt_irrefl, l_0, l_1, l_2, l_3, l_4, l_5, l_6, l_7, l_8, l_9, l_10, l_13, l_14, l_16, l_20, l_24, l_26, l_30, l_31, l_32, l_48, l_57, l_59, l_63, l_96, l_97, l_100, l_122, l_200, l_255, l_256, l_270, l_400, l_429, l_526, l_780, l_800, l_926, l_1726, l_12082, show ¬ (n ≤ m) by omega] at e1 e2 h4 ⊢
      rw [e1]
      simp only [Option.bind_some]
      rw [e2]
      simp (disch := first | omega | assumption) only [nq_neg, nq_fix, nq_sub1, nq_addN, nq_add, nq_mul, nq_sub, nq_ltN, nq_Nlt, nq_leN, nq_Nle, nq_lt, nq_le, nq_eq, nq_div, nq_pow, nq_tn, rd_W, wr_W, nS_eq, nS_ne, Option.bind_some, Option.bind_none, ↓reduceIte, Bool.false_eq_true, Nat.reduceEqDiff, Nat.reduceLT, Nat.reduceLeDiff, Nat.reduceAdd, Nat.reduceMul, Nat.reduceSub, Nat.reducePow, Nat.add_sub_cancel, Nat.zero_le, Nat.not_lt_zero, Nat.le_refl, Nat.lt_irrefl, l_0, l_1, l_2, l_3, l_4, l_5, l_6, l_7, l_8, l_9, l_10, l_13, l_14, l_16, l_20, l_24, l_26, l_30, l_31, l_32, l_48, l_57, l_59, l_63, l_96, l_97, l_100, l_122, l_200, l_255, l_256, l_270, l_400, l_429, l_526, l_780, l_800, l_926, l_1726, l_12082]
      by_cases h7 : (ph z P L (bst (fun c => (ph z P L c).length) m)).length < (ph z P L m).length
      · rw [if_pos h7] at h4
        rw [if_neg (by omega)]
        exact h4
      · rw [if_neg h7] at h4
        rw [if_pos (by omega)]
        exact h4
theorem k_firstLongest (fu : Nat) (hf : 300 ≤ fu) (p l le nw od : Nat → Nat) (z wid n : Nat) (P L : Nat → Nat) (h : RD p l le nw od z n P L) (wd : WD z n P L) (hn : n ≤ 256) (h0 : 1 ≤ n) :
    J_X1_firstLongest fu (dN p l le nw od z wid n) = some (nI (bst (fun c => (ph z P L c).length) n)) := by
  have := k_long_b fu p l le nw od z wid n P L h wd hn fu 1 (by omega) h0 (by omega)
  unfold J_X1_firstLongest
  rw [show bst (fun c => (ph z P L c).length) 1 = 0 from by show (if _ then 0 else 0) = 0; exact ite_self _] at this
  exact this
/-! the class's encoder against the model's numbers -/
def eN (d : DS) (po li ph : Nat) (en : Nat → Nat) (el : Nat) (wr wi : Nat → Nat) (wl bi cl rc rs rb : Nat) : ES := mkE d (nI po) (nI li) (nI ph) (nW en) (nI el) (nW wr) (nW wi) (nI wl) (nI bi) (nI cl) (nI rc) (nI rs) (nI rb)
def phr (g : Nat → Nat) : Nat := if g 5 = 0 then 4294967295 else g 5 - 1
def RQ (e : ES) (g : Nat → Nat) (el : Nat) : Prop := ∃ p l le nw od en wr wi : Nat → Nat,
  e = eN (dN p l le nw od (g 0) (g 1) (g 4)) (g 2) (g 3) (phr g) en el wr wi (g 7) (sm (gwd_ g) 0 (g 7)) (g 8) (g 7 - g 9) (gss g) (gbs g) ∧
  RD p l le nw od (g 0) (g 4) (gP g) (gL g) ∧ (∀ i, i < el → en i = g (526 + i)) ∧ (∀ i, i < g 7 → wr i = gcd_ g i ∧ wi i = gwd_ g i)
def RE (e : ES) (g : Nat → Nat) : Prop := RQ e g (g 6)
theorem k_write (fu : Nat) (hf : 300 ≤ fu) (p l le nw od : Nat → Nat) (z wid n po li ph : Nat) (en : Nat → Nat) (el : Nat) (wr wi : Nat → Nat) (wl bi cl rc rs rb c : Nat) (hn : n ≤ 256) (hw : wl < 800) :
    J_X2_write fu (eN (dN p l le nw od z wid n) po li ph en el wr wi wl bi cl rc rs rb) (nI c) = some (eN (dN p l le nw od z wid n) po li ph en el (nS wr wl c) (nS wi wl (bw n)) (wl + 1) (bi + bw n) cl rc rs rb) := by
  have e1 := k_widthCodes fu hf p l le nw od z wid n hn
  have e2 := k_put 800 wr wl c hw (by omega)
  have e3 := k_put 800 wi wl (bw n) hw (by omega)
  unfold J_X2_write
  simp (disch := first | omega | assumption) only [e_d, e_policy, e_limit, e_phrase, e_encoded, e_encodedLength, e_written, e_widths, e_writtenLength, e_bits, e_clears, e_recentCodes, e_recentSymbols, e_recentBits, mkE, eN, nq_neg, nq_fix, nq_sub1, nq_addN, nq_add, nq_mul, nq_sub, nq_ltN, nq_Nlt, nq_leN, nq_Nle, nq_lt, nq_le, nq_eq, nq_div, nq_pow, nq_tn, rd_W, wr_W, nS_eq, nS_ne, Option.bind_some, Option.bind_none, ↓reduceIte, Bool.false_eq_true, Nat.reduceEqDiff, Nat.reduceLT, Nat.reduceLeDiff, Nat.reduceAdd, Nat.reduceMul, Nat.reduceSub, Nat.reducePow, Nat.add_sub_cancel, Nat.zero_le, Nat.not_lt_zero, Nat.le_refl, Nat.lt_irrefl, l_0, l_1, l_2, l_3, l_4, l_5, l_6, l_7, l_8, l_9, l_10, l_13, l_14, l_16, l_20, l_24, l_26, l_30, l_31, l_32, l_48, l_57, l_59, l_63, l_96, l_97, l_100, l_122, l_200, l_255, l_256, l_270, l_400, l_429, l_526, l_780, l_800, l_926, l_1726, l_12082] at e1 e2 e3 ⊢
  simp (disch := first | omega | assumption) only [nq_neg, nq_fix, nq_sub1, nq_addN, nq_add, nq_mul, nq_sub, nq_ltN, nq_Nlt, nq_leN, nq_Nle, nq_lt, nq_le, nq_eq, nq_div, nq_pow, nq_tn, rd_W, wr_W, nS_eq, nS_ne, Option.bind_some, Option.bind_none, ↓reduceIte, Bool.false_eq_true, Nat.reduceEqDiff, Nat.reduceLT, Nat.reduceLeDiff, Nat.reduceAdd, Nat.reduceMul, Nat.reduceSub, Nat.reducePow, Nat.add_sub_cancel, Nat.zero_le, Nat.not_lt_zero, Nat.le_refl, Nat.lt_irrefl, l_0, l_1, l_2, l_3, l_4, l_5, l_6, l_7, l_8, l_9, l_10, l_13, l_14, l_16, l_20, l_24, l_26, l_30, l_31, l_32, l_48, l_57, l_59, l_63, l_96, l_97, l_100, l_122, l_200, l_255, l_256, l_270, l_400, l_429, l_526, l_780, l_800, l_926, l_1726, l_12082, e1, e2, e3]
theorem gWr_at (g : Nat → Nat) (c : Nat) : gWr g c 0 = g 0 ∧ gWr g c 1 = g 1 ∧ gWr g c 2 = g 2 ∧ gWr g c 3 = g 3 ∧ gWr g c 4 = g 4 ∧ gWr g c 5 = g 5 ∧ gWr g c 6 = g 6 ∧ gWr g c 7 = g 7 + 1 ∧ gWr g c 8 = g 8 ∧ gWr g c 9 = g 9 ∧ gWr g c 13 = g 13 + (gph g c).length := by
  unfold gWr
  refine ⟨?_, ?_, ?_, ?_, ?_, ?_, ?_, ?_, ?_, ?_, ?_⟩ <;> simp (disch := omega) only [nS_eq, nS_ne]
theorem gWr_lo (g : Nat → Nat) (c k : Nat) (h1 : 14 ≤ k) (h2 : k < 926) : gWr g c k = g k := by
  unfold gWr
  simp (disch := omega) only [nS_eq, nS_ne]
theorem gWr_cod (g : Nat → Nat) (c i : Nat) (h : i < g 7) : gWr g c (926 + i) = g (926 + i) := by
  unfold gWr
  simp (disch := omega) only [nS_eq, nS_ne]
theorem gWr_new (g : Nat → Nat) (c : Nat) : gcd_ (gWr g c) (g 7) = c ∧ gwd_ (gWr g c) (g 7) = bw (g 4) := by
  have h := bw_rng (g 4)
  have e : gWr g c (926 + g 7) = 16 * c + bw (g 4) := by unfold gWr; simp (disch := omega) only [nS_eq, nS_ne]
  unfold gcd_ gwd_
  rw [e]
  omega
theorem gWr_old (g : Nat → Nat) (c i : Nat) (h : i < g 7) : gcd_ (gWr g c) i = gcd_ g i ∧ gwd_ (gWr g c) i = gwd_ g i := by
  unfold gcd_ gwd_
  rw [gWr_cod g c i h]
  exact ⟨rfl, rfl⟩
theorem gWr_sm (g : Nat → Nat) (c a : Nat) (h : a ≤ g 7) : sm (gwd_ (gWr g c)) a (g 7 + 1) = sm (gwd_ g) a (g 7) + bw (g 4) := by
  rw [sm_succ _ _ _ h, (gWr_new g c).2, sm_congr (gwd_ g) (gwd_ (gWr g c)) a (g 7) (fun k _ hk => (gWr_old g c k hk).2)]
theorem gWr_gbs {g : Nat → Nat} (h : MB g) (c : Nat) : gbs (gWr g c) = gbs g + bw (g 4) := by
  obtain ⟨hd, hp, h97, h7, hc, hv⟩ := h
  obtain ⟨e0, e1, e2, e3, e4, e5, e6, e7, e8, e9, e13⟩ := gWr_at g c
  unfold gbs
  rw [e9, e7, gWr_sm g c (g 9) h97]
theorem gWr_gss {g : Nat → Nat} (h : MB g) (c : Nat) (hc : c < g 4) : gss (gWr g c) = gss g + (gph g c).length := by
  obtain ⟨hd, hp, h97, h7, hcc, hv⟩ := h
  obtain ⟨e0, e1, e2, e3, e4, e5, e6, e7, e8, e9, e13⟩ := gWr_at g c
  obtain ⟨d, e⟩ := gph_of hd (DE_gWr g c)
  unfold gss
  rw [e9, e7, sm_succ _ _ _ h97]
  have h1 : gln (gWr g c) (g 7) = (gph g c).length := by
    unfold gln
    rw [(gWr_new g c).1, e c hc]
  rw [h1, sm_congr (gln g) (gln (gWr g c)) (g 9) (g 7) (fun k h2 h3 => by
    unfold gln
    rw [(gWr_old g c k h3).1, e _ (hv k h2 h3)])]
theorem RD_of {p l le nw od : Nat → Nat} {g' g : Nat → Nat} (h : RD p l le nw od (g 0) (g 4) (gP g) (gL g)) (hd : DI g) (e : DE g' g) : RD p l le nw od (g' 0) (g' 4) (gP g') (gL g') := by
  obtain ⟨r1, r2, r3, r4, r5, r6, r7, r8⟩ := h
  obtain ⟨d, ep⟩ := gph_of hd e
  obtain ⟨⟨_, h0, _, _, hz, h4⟩, wd, ud⟩ := id hd
  obtain ⟨e0, e1, e4, e⟩ := e
  have eP : ∀ k, k < g 4 → gP g' k = gP g k := fun k hk => e (14 + k) (by omega) (by omega)
  have eL : ∀ k, k < g 4 → gL g' k = gL g k := fun k hk => e (270 + k) (by omega) (by omega)
  have eK : ∀ c m, m ≤ g 4 → kidN (g 0) (gP g') c m = kidN (g 0) (gP g) c m := by
    intro c m
    induction m with
    | zero => intro _; rfl
    | succ m ih =>
      intro hm
      show (if g 0 < m ∧ gP g' m = c then m else kidN (g 0) (gP g') c m) = (if g 0 < m ∧ gP g m = c then m else kidN (g 0) (gP g) c m)
      rw [eP m (by omega), ih (by omega)]
  rw [e0, e4]
  refine ⟨r1, fun k h1 h2 => ?_, r3, r4, fun k h1 h2 => ?_, fun k hk => ?_, fun k hk => ?_, fun k h1 h2 => ?_⟩
  · rw [eP k h2]; exact r2 k h1 h2
  · rw [eL k h2]; exact r5 k h1 h2
  · have := ep k hk
    unfold gph at this
    rw [e0] at this
    rw [this]; exact r6 k hk
  · rw [eK k _ (Nat.le_refl _)]; exact r7 k hk
  · rw [eP k h2, eK _ k (by omega)]; exact r8 k h1 h2
/-- a code is written: of the phrase, or the clear code -/
theorem k_wr (fu : Nat) (hf : 300 ≤ fu) {e : ES} {g : Nat → Nat} {el : Nat} (h : RQ e g el) (hm : MB g) (h7 : g 7 < 800) (hel : el ≤ 400) (h5 : g 5 ≠ 0) (hc : g 5 - 1 < g 4) :
    ∃ e', J_X2_writePhrase fu e = some e' ∧ RQ e' (gWr g (g 5 - 1)) el := by
  obtain ⟨p, l, le, nw, od, en, wr, wi, rfl, hr, hen, hw⟩ := h
  obtain ⟨hd, hp, h97, _, hcc, hv⟩ := id hm
  obtain ⟨⟨_, h0, _, h1, hz, h4⟩, wd, ud⟩ := id hd
  obtain ⟨e0, e1, e2, e3, e4, e5, e6, e7, e8, e9, e13⟩ := gWr_at g (g 5 - 1)
  have hph : phr g = g 5 - 1 := if_neg h5
  have a1 := k_lengthOf p l le nw od (g 0) (g 1) (g 4) (gP g) (gL g) hr h4 (g 5 - 1) hc
  have a2 := k_widthCodes fu hf p l le nw od (g 0) (g 1) (g 4) h4
  refine ⟨eN (dN p l le nw od (g 0) (g 1) (g 4)) (g 2) (g 3) (g 5 - 1) en el (nS wr (g 7) (g 5 - 1)) (nS wi (g 7) (bw (g 4))) (g 7 + 1) (sm (gwd_ g) 0 (g 7) + bw (g 4)) (g 8) (g 7 - g 9 + 1) (gss g + (gph g (g 5 - 1)).length) (gbs g + bw (g 4)), ?_, ?_⟩
  · have a3 := k_write fu hf p l le nw od (g 0) (g 1) (g 4) (g 2) (g 3) (g 5 - 1) en el wr wi (g 7) (sm (gwd_ g) 0 (g 7)) (g 8) (g 7 - g 9 + 1) (gss g + (gph g (g 5 - 1)).length) (gbs g + bw (g 4)) (g 5 - 1) h4 h7
    unfold J_X2_writePhrase
    rw [hph]
    simp (disch := first | omega | assumption) only [e_d, e_policy, e_limit, e_phrase, e_encoded, e_encodedLength, e_written, e_widths, e_writtenLength, e_bits, e_clears, e_recentCodes, e_recentSymbols, e_recentBits, mkE, eN, nq_neg, nq_fix, nq_sub1, nq_addN, nq_add, nq_mul, nq_sub, nq_ltN, nq_Nlt, nq_leN, nq_Nle, nq_lt, nq_le, nq_eq, nq_div, nq_pow, nq_tn, rd_W, wr_W, nS_eq, nS_ne, Option.bind_some, Option.bind_none, ↓reduceIte, Bool.false_eq_true, Nat.reduceEqDiff, Nat.reduceLT, Nat.reduceLeDiff, Nat.reduceAdd, Nat.reduceMul, Nat.reduceSub, Nat.reducePow, Nat.add_sub_cancel, Nat.zero_le, Nat.not_lt_zero, Nat.le_refl, Nat.lt_irrefl, l_0, l_1, l_2, l_3, l_4, l_5, l_6, l_7, l_8, l_9, l_10, l_13, l_14, l_16, l_20, l_24, l_26, l_30, l_31, l_32, l_48, l_57, l_59, l_63, l_96, l_97, l_100, l_122, l_200, l_255, l_256, l_270, l_400, l_429, l_526, l_780, l_800, l_926, l_1726, l_12082] at a3 ⊢
    simp (disch := first | omega | assumption) only [nq_neg, nq_fix, nq_sub1, nq_addN, nq_add, nq_mul, nq_sub, nq_ltN, nq_Nlt, nq_leN, nq_Nle, nq_lt, nq_le, nq_eq, nq_div, nq_pow, nq_tn, rd_W, wr_W, nS_eq, nS_ne, Option.bind_some, Option.bind_none, ↓reduceIte, Bool.false_eq_true, Nat.reduceEqDiff, Nat.reduceLT, Nat.reduceLeDiff, Nat.reduceAdd, Nat.reduceMul, Nat.reduceSub, Nat.reducePow, Nat.add_sub_cancel, Nat.zero_le, Nat.not_lt_zero, Nat.le_refl, Nat.lt_irrefl, l_0, l_1, l_2, l_3, l_4, l_5, l_6, l_7, l_8, l_9, l_10, l_13, l_14, l_16, l_20, l_24, l_26, l_30, l_31, l_32, l_48, l_57, l_59, l_63, l_96, l_97, l_100, l_122, l_200, l_255, l_256, l_270, l_400, l_429, l_526, l_780, l_800, l_926, l_1726, l_12082, a1, a2]
    unfold gph at a3
    rw [a3]
    rfl
  · refine ⟨p, l, le, nw, od, en, nS wr (g 7) (g 5 - 1), nS wi (g 7) (bw (g 4)), ?_, RD_of hr hd (DE_gWr g _), fun i hi => ?_, fun i hi => ?_⟩
    · unfold phr
      rw [e0, e1, e2, e3, e4, e5, e7, e8, e9, gWr_gss hm _ hc, gWr_gbs hm, gWr_sm g _ 0 (by omega), if_neg h5, show g 7 + 1 - g 9 = g 7 - g 9 + 1 by omega]
    · rw [hen i hi, gWr_lo g _ _ (by omega) (by omega)]
    · rw [e7] at hi
      by_cases h8 : i = g 7
      · subst h8
        rw [nS_eq, nS_eq, (gWr_new g _).1, (gWr_new g _).2]
        exact ⟨rfl, rfl⟩
      · rw [nS_ne _ _ _ _ h8, nS_ne _ _ _ _ h8, (gWr_old g _ i (by omega)).1, (gWr_old g _ i (by omega)).2]
        exact hw i (by omega)
/-! the class's encoder: clear codes, longer phrases, a symbol -/
def gC8 (g : Nat → Nat) : Nat → Nat := nS (gWr g (g 0)) 8 (g 8 + 1)
theorem gWC_at (g : Nat → Nat) : gWC g 0 = g 0 ∧ gWC g 1 = g 1 ∧ gWC g 2 = g 2 ∧ gWC g 3 = g 3 ∧ gWC g 4 = g 0 + 1 ∧ gWC g 5 = g 5 ∧ gWC g 6 = g 6 ∧ gWC g 7 = g 7 + 1 ∧ gWC g 8 = g 8 + 1 ∧ gWC g 9 = g 7 + 1 ∧ gWC g 13 = g 13 := by
  have hz : (gph g (g 0)).length = 0 := by unfold gph; rw [ph_z]; rfl
  unfold gWC gCA gWr
  rw [hz]
  refine ⟨?_, ?_, ?_, ?_, ?_, ?_, ?_, ?_, ?_, ?_, ?_⟩ <;> simp (disch := omega) only [nS_eq, nS_ne, Nat.add_zero]
theorem gWC_hi (g : Nat → Nat) (k : Nat) (h1 : 14 ≤ k) (h2 : k ≠ 926 + g 7) : gWC g k = g k := by
  unfold gWC gCA gWr
  simp (disch := omega) only [nS_eq, nS_ne]
theorem gWC_new (g : Nat → Nat) : gcd_ (gWC g) (g 7) = g 0 ∧ gwd_ (gWC g) (g 7) = bw (g 4) := by
  have h := bw_rng (g 4)
  have e : gWC g (926 + g 7) = 16 * g 0 + bw (g 4) := by unfold gWC gCA gWr; simp (disch := omega) only [nS_eq, nS_ne]
  unfold gcd_ gwd_
  rw [e]
  omega
theorem gWC_old (g : Nat → Nat) (i : Nat) (h : i < g 7) : gcd_ (gWC g) i = gcd_ g i ∧ gwd_ (gWC g) i = gwd_ g i := by
  unfold gcd_ gwd_
  rw [gWC_hi g (926 + i) (by omega) (by omega)]
  exact ⟨rfl, rfl⟩
theorem gWC_sm (g : Nat → Nat) : sm (gwd_ (gWC g)) 0 (g 7 + 1) = sm (gwd_ g) 0 (g 7) + bw (g 4) := by
  rw [sm_succ _ _ _ (Nat.zero_le _), (gWC_new g).2, sm_congr (gwd_ g) (gwd_ (gWC g)) 0 (g 7) (fun k _ hk => (gWC_old g k hk).2)]
theorem gWC_s (g : Nat → Nat) : gbs (gWC g) = 0 ∧ gss (gWC g) = 0 := by
  obtain ⟨e0, e1, e2, e3, e4, e5, e6, e7, e8, e9, e13⟩ := gWC_at g
  unfold gbs gss
  rw [e9, e7, sm_self, sm_self]
  exact ⟨rfl, rfl⟩
theorem k_cl (fu : Nat) (hf : 300 ≤ fu) {e : ES} {g : Nat → Nat} {el : Nat} (h : RQ e g el) (hm : MB g) (h7 : g 7 < 800) (hel : el ≤ 400) :
    ∃ e', J_X2_writeClear fu e = some e' ∧ RQ e' (gWC g) el := by
  obtain ⟨p, l, le, nw, od, en, wr, wi, rfl, hr, hen, hw⟩ := h
  obtain ⟨hd, hp, h97, _, hcc, hv⟩ := id hm
  obtain ⟨⟨_, h0, _, h1, hz, h4⟩, wd, ud⟩ := id hd
  obtain ⟨e0, e1, e2, e3, e4, e5, e6, e7, e8, e9, e13⟩ := gWC_at g
  obtain ⟨p', l', le', nw', a1, a2⟩ := k_keep fu hf p l le nw od (g 0) (g 1) (g 4) (by omega) (gP (gWC g)) (gL (gWC g))
  have a3 := k_write fu hf p l le nw od (g 0) (g 1) (g 4) (g 2) (g 3) (phr g) en el wr wi (g 7) (sm (gwd_ g) 0 (g 7)) (g 8) (g 7 - g 9) (gss g) (gbs g) (g 0) h4 h7
  refine ⟨eN (dN p' l' le' nw' od (g 0) (g 1) (g 0 + 1)) (g 2) (g 3) (phr g) en el (nS wr (g 7) (g 0)) (nS wi (g 7) (bw (g 4))) (g 7 + 1) (sm (gwd_ g) 0 (g 7) + bw (g 4)) (g 8 + 1) 0 0 0, ?_, ?_⟩
  · unfold J_X2_writeClear J_X2_forgetRecent
    simp (disch := first | omega | assumption) only [d_prefix, d_lastSymbol, d_lengths, d_newest, d_older, d_alphabet, d_widest, d_count, mkD, dN, e_d, e_policy, e_limit, e_phrase, e_encoded, e_encodedLength, e_written, e_widths, e_writtenLength, e_bits, e_clears, e_recentCodes, e_recentSymbols, e_recentBits, mkE, eN, nq_neg, nq_fix, nq_sub1, nq_addN, nq_add, nq_mul, nq_sub, nq_ltN, nq_Nlt, nq_leN, nq_Nle, nq_lt, nq_le, nq_eq, nq_div, nq_pow, nq_tn, rd_W, wr_W, nS_eq, nS_ne, Option.bind_some, Option.bind_none, ↓reduceIte, Bool.false_eq_true, Nat.reduceEqDiff, Nat.reduceLT, Nat.reduceLeDiff, Nat.reduceAdd, Nat.reduceMul, Nat.reduceSub, Nat.reducePow, Nat.add_sub_cancel, Nat.zero_le, Nat.not_lt_zero, Nat.le_refl, Nat.lt_irrefl, l_0, l_1, l_2, l_3, l_4, l_5, l_6, l_7, l_8, l_9, l_10, l_13, l_14, l_16, l_20, l_24, l_26, l_30, l_31, l_32, l_48, l_57, l_59, l_63, l_96, l_97, l_100, l_122, l_200, l_255, l_256, l_270, l_400, l_429, l_526, l_780, l_800, l_926, l_1726, l_12082] at a1 a3 ⊢
    simp (disch := first | omega | assumption) only [a3, a1, nq_neg, nq_fix, nq_sub1, nq_addN, nq_add, nq_mul, nq_sub, nq_ltN, nq_Nlt, nq_leN, nq_Nle, nq_lt, nq_le, nq_eq, nq_div, nq_pow, nq_tn, rd_W, wr_W, nS_eq, nS_ne, Option.bind_some, Option.bind_none, ↓reduceIte, Bool.false_eq_true, Nat.reduceEqDiff, Nat.reduceLT, Nat.reduceLeDiff, Nat.reduceAdd, Nat.reduceMul, Nat.reduceSub, Nat.reducePow, Nat.add_sub_cancel, Nat.zero_le, Nat.not_lt_zero, Nat.le_refl, Nat.lt_irrefl, l_0, l_1, l_2, l_3, l_4, l_5, l_6, l_7, l_8, l_9, l_10, l_13, l_14, l_16, l_20, l_24, l_26, l_30, l_31, l_32, l_48, l_57, l_59, l_63, l_96, l_97, l_100, l_122, l_200, l_255, l_256, l_270, l_400, l_429, l_526, l_780, l_800, l_926, l_1726, l_12082]
  · refine ⟨p', l', le', nw', od, en, nS wr (g 7) (g 0), nS wi (g 7) (bw (g 4)), ?_, by rw [e0, e4]; exact a2, fun i hi => ?_, fun i hi => ?_⟩
    · unfold phr
      rw [e0, e1, e2, e3, e4, e5, e7, e8, e9, (gWC_s g).1, (gWC_s g).2, gWC_sm g, Nat.sub_self]
    · rw [hen i hi, gWC_hi g _ (by omega) (by omega)]
    · rw [e7] at hi
      by_cases h8 : i = g 7
      · subst h8
        rw [nS_eq, nS_eq, (gWC_new g).1, (gWC_new g).2]
        exact ⟨rfl, rfl⟩
      · rw [nS_ne _ _ _ _ h8, nS_ne _ _ _ _ h8, (gWC_old g i (by omega)).1, (gWC_old g i (by omega)).2]
        exact hw i (by omega)
theorem gLearn_at (g : Nat → Nat) (c s k : Nat) (h1 : k ≠ 4) (h2 : k ≠ 14 + g 4) (h3 : k ≠ 270 + g 4) : gLearn g c s k = g k := by
  unfold gLearn
  simp (disch := omega) only [nS_eq, nS_ne]
theorem gLearn_P (g : Nat → Nat) (c s : Nat) (h : g 4 < 256) (k : Nat) (hk : k < 256) : gP (gLearn g c s) k = nS (gP g) (g 4) c k ∧ gL (gLearn g c s) k = nS (gL g) (g 4) s k := by
  unfold gP gL gLearn
  constructor
  · by_cases h1 : k = g 4
    · subst h1; simp (disch := omega) only [nS_eq, nS_ne]
    · rw [nS_ne (fun k => g (14 + k)) _ _ _ h1]; simp (disch := omega) only [nS_eq, nS_ne]
  · by_cases h1 : k = g 4
    · subst h1; simp (disch := omega) only [nS_eq, nS_ne]
    · rw [nS_ne (fun k => g (270 + k)) _ _ _ h1]; simp (disch := omega) only [nS_eq, nS_ne]
theorem WD_congr {z n : Nat} {P L P' L' : Nat → Nat} (h : WD z n P L) (e : ∀ k, k < n → P' k = P k ∧ L' k = L k) : WD z n P' L' := fun k h1 h2 => by
  rw [(e k h2).1, (e k h2).2]; exact h k h1 h2
theorem UD_congr {z n : Nat} {P L P' L' : Nat → Nat} (h : UD z n P L) (e : ∀ k, k < n → P' k = P k ∧ L' k = L k) : UD z n P' L' := fun j k h1 h2 h3 => by
  rw [(e k h3).1, (e k h3).2, (e j (by omega)).1, (e j (by omega)).2]; exact h j k h1 h2 h3
theorem kidN_congr {z : Nat} {P P' : Nat → Nat} (c n : Nat) (e : ∀ k, k < n → P' k = P k) : kidN z P' c n = kidN z P c n := by
  induction n with
  | zero => rfl
  | succ n ih =>
    show (if z < n ∧ P' n = c then n else kidN z P' c n) = (if z < n ∧ P n = c then n else kidN z P c n)
    rw [e n (by omega), ih fun k hk => e k (by omega)]
theorem RD_PL {p l le nw od : Nat → Nat} {z n : Nat} {P L P' L' : Nat → Nat} (h : RD p l le nw od z n P L) (wd : WD z n P L) (e : ∀ k, k < n → P' k = P k ∧ L' k = L k) : RD p l le nw od z n P' L' := by
  obtain ⟨r1, r2, r3, r4, r5, r6, r7, r8⟩ := h
  refine ⟨r1, fun k h1 h2 => ?_, r3, r4, fun k h1 h2 => ?_, fun k hk => ?_, fun k hk => ?_, fun k h1 h2 => ?_⟩
  · rw [(e k h2).1]; exact r2 k h1 h2
  · rw [(e k h2).2]; exact r5 k h1 h2
  · rw [ph_congr wd (fun j _ hj => (e j hj).1) (fun j _ hj => (e j hj).2) k hk]; exact r6 k hk
  · rw [kidN_congr k n fun j hj => (e j hj).1]; exact r7 k hk
  · rw [(e k h2).1, kidN_congr _ k fun j hj => (e j (by omega)).1]; exact r8 k h1 h2
theorem gLearn_DI {g : Nat → Nat} (hd : DI g) (h4 : g 4 < 256) {c s : Nat} (hc : c < g 4) (hcz : c ≠ g 0) (hs : s < g 0) (hk : gk g c s = 4294967295) : DI (gLearn g c s) ∧ ∀ k, k < g 4 → gph (gLearn g c s) k = gph g k := by
  obtain ⟨⟨h2, h0, h3, h1, hz, _⟩, wd, ud⟩ := hd
  have eP := gLearn_P g c s h4
  have e0 : gLearn g c s 0 = g 0 := gLearn_at g c s 0 (by omega) (by omega) (by omega)
  have e1 : gLearn g c s 1 = g 1 := gLearn_at g c s 1 (by omega) (by omega) (by omega)
  have e4 : gLearn g c s 4 = g 4 + 1 := by unfold gLearn; simp (disch := omega) only [nS_eq, nS_ne]
  refine ⟨⟨⟨by omega, by omega, by omega, by omega, by omega, by omega⟩, ?_, ?_⟩, fun k hk => ?_⟩
  · rw [e0, e4]; exact WD_congr (WD_add wd hc hcz hs) fun k hk => eP k (by omega)
  · rw [e0, e4]; exact UD_congr (UD_add ud hk (by omega)) fun k hk => eP k (by omega)
  · unfold gph
    rw [e0]
    exact ph_congr wd (fun j _ hj => by rw [(eP j (by omega)).1, nS_ne _ _ _ _ (by omega)]) (fun j _ hj => by rw [(eP j (by omega)).2, nS_ne _ _ _ _ (by omega)]) k hk
theorem k_ad (fu : Nat) (hf : 300 ≤ fu) {p l le nw od en wr wi : Nat → Nat} {g : Nat → Nat} (hr : RD p l le nw od (g 0) (g 4) (gP g) (gL g)) (hm : MB g) (h4 : g 4 < 256) {c s : Nat} (hc : c < g 4) (hcz : c ≠ g 0) (hs : s < g 0) :
    ∃ p' l' le' nw' od', J_X1_addLonger (dN p l le nw od (g 0) (g 1) (g 4)) (nI c) (nI s) = some (nI (g 4), dN p' l' le' nw' od' (g 0) (g 1) (g 4 + 1)) ∧ RD p' l' le' nw' od' (g 0) (g 4 + 1) (gP (gLearn g c s)) (gL (gLearn g c s)) := by
  obtain ⟨hd, hp, h97, _, hcc, hv⟩ := id hm
  obtain ⟨⟨_, h0, _, h1, hz, _⟩, wd, ud⟩ := id hd
  obtain ⟨p', l', le', nw', od', a1, a2⟩ := k_addLonger p l le nw od (g 0) (g 1) (g 4) (gP g) (gL g) hr wd (by omega) h4 c s hc hcz hs
  exact ⟨p', l', le', nw', od', a1, RD_PL a2 (WD_add wd hc hcz hs) fun k hk => gLearn_P g c s h4 k (by omega)⟩
/-! the class's encoder: a symbol is taken -/
theorem asked_gWr {g : Nat → Nat} (h : MB g) {c : Nat} (hc : c < g 4) : asked (gWr g c) = (decide (g 4 = 2 ^ g 1) && (decide (g 2 = 1) || (decide (g 2 = 2) && decide (g 3 < pcn (g 0) (gbs g + bw (g 4)) (gss g + (gph g c).length))))) := by
  obtain ⟨e0, e1, e2, e3, e4, e5, e6, e7, e8, e9, e13⟩ := gWr_at g c
  unfold asked
  rw [e0, e1, e2, e3, e4, gWr_gbs h, gWr_gss h c hc]
theorem k_percent (fu : Nat) (hf : 300 ≤ fu) (p l le nw od : Nat → Nat) (z wid n po li ph : Nat) (en : Nat → Nat) (el : Nat) (wr wi : Nat → Nat) (wl bi cl rc rs rb b s : Nat) (hz : z ≤ 26) (hb : b ≤ 10000000) (hs : s ≤ 1000000) :
    J_X2_percent fu (eN (dN p l le nw od z wid n) po li ph en el wr wi wl bi cl rc rs rb) (nI b) (nI s) = some (nI (pcn z b s)) := by
  have a1 := k_widthSymbols fu hf p l le nw od z wid n (by omega)
  have h1 := bw_rng z
  have h2 : s * bw z ≤ s * 8 := Nat.mul_le_mul_left s h1.2
  unfold J_X2_percent pcn
  simp (disch := first | omega | assumption) only [e_d, e_policy, e_limit, e_phrase, e_encoded, e_encodedLength, e_written, e_widths, e_writtenLength, e_bits, e_clears, e_recentCodes, e_recentSymbols, e_recentBits, mkE, eN, nq_neg, nq_fix, nq_sub1, nq_addN, nq_add, nq_mul, nq_sub, nq_ltN, nq_Nlt, nq_leN, nq_Nle, nq_lt, nq_le, nq_eq, nq_div, nq_pow, nq_tn, rd_W, wr_W, nS_eq, nS_ne, Option.bind_some, Option.bind_none, ↓reduceIte, Bool.false_eq_true, Nat.reduceEqDiff, Nat.reduceLT, Nat.reduceLeDiff, Nat.reduceAdd, Nat.reduceMul, Nat.reduceSub, Nat.reducePow, Nat.add_sub_cancel, Nat.zero_le, Nat.not_lt_zero, Nat.le_refl, Nat.lt_irrefl, l_0, l_1, l_2, l_3, l_4, l_5, l_6, l_7, l_8, l_9, l_10, l_13, l_14, l_16, l_20, l_24, l_26, l_30, l_31, l_32, l_48, l_57, l_59, l_63, l_96, l_97, l_100, l_122, l_200, l_255, l_256, l_270, l_400, l_429, l_526, l_780, l_800, l_926, l_1726, l_12082] at a1 ⊢
  simp (disch := first | omega | assumption) only [nq_neg, nq_fix, nq_sub1, nq_addN, nq_add, nq_mul, nq_sub, nq_ltN, nq_Nlt, nq_leN, nq_Nle, nq_lt, nq_le, nq_eq, nq_div, nq_pow, nq_tn, rd_W, wr_W, nS_eq, nS_ne, Option.bind_some, Option.bind_none, ↓reduceIte, Bool.false_eq_true, Nat.reduceEqDiff, Nat.reduceLT, Nat.reduceLeDiff, Nat.reduceAdd, Nat.reduceMul, Nat.reduceSub, Nat.reducePow, Nat.add_sub_cancel, Nat.zero_le, Nat.not_lt_zero, Nat.le_refl, Nat.lt_irrefl, l_0, l_1, l_2, l_3, l_4, l_5, l_6, l_7, l_8, l_9, l_10, l_13, l_14, l_16, l_20, l_24, l_26, l_30, l_31, l_32, l_48, l_57, l_59, l_63, l_96, l_97, l_100, l_122, l_200, l_255, l_256, l_270, l_400, l_429, l_526, l_780, l_800, l_926, l_1726, l_12082, a1]
  by_cases h3 : s = 0
  · subst h3
    simp (disch := first | omega | assumption) only [Nat.zero_mul, nq_neg, nq_fix, nq_sub1, nq_addN, nq_add, nq_mul, nq_sub, nq_ltN, nq_Nlt, nq_leN, nq_Nle, nq_lt, nq_le, nq_eq, nq_div, nq_pow, nq_tn, rd_W, wr_W, nS_eq, nS_ne, Option.bind_some, Option.bind_none, ↓reduceIte, Bool.false_eq_true, Nat.reduceEqDiff, Nat.reduceLT, Nat.reduceLeDiff, Nat.reduceAdd, Nat.reduceMul, Nat.reduceSub, Nat.reducePow, Nat.add_sub_cancel, Nat.zero_le, Nat.not_lt_zero, Nat.le_refl, Nat.lt_irrefl, l_0, l_1, l_2, l_3, l_4, l_5, l_6, l_7, l_8, l_9, l_10, l_13, l_14, l_16, l_20, l_24, l_26, l_30, l_31, l_32, l_48, l_57, l_59, l_63, l_96, l_97, l_100, l_122, l_200, l_255, l_256, l_270, l_400, l_429, l_526, l_780, l_800, l_926, l_1726, l_12082]
  · have h4 : s * 1 ≤ s * bw z := Nat.mul_le_mul_left s h1.1
    rw [if_pos (by omega), if_neg (by omega), if_neg h3]
theorem k_asks (fu : Nat) (hf : 300 ≤ fu) {e : ES} {g : Nat → Nat} {el : Nat} (h : RQ e g el) (hm : MB g) (h2 : g 2 ≤ 2) (h3 : g 3 ≤ 200) (h5 : g 5 ≠ 0) (hc : g 5 - 1 < g 4) :
    J_X2_asksForClearing fu e = some (nI (if asked (gWr g (g 5 - 1)) = true then 1 else 0)) := by
  obtain ⟨p, l, le, nw, od, en, wr, wi, rfl, hr, hen, hw⟩ := h
  obtain ⟨hd, hp, h97, h7, hcc, hv⟩ := id hm
  obtain ⟨⟨_, h0, _, h1, hz, h4⟩, wd, ud⟩ := id hd
  have hb := gbs_le hm
  have hbw := bw_rng (g 4)
  have hln := ph_le wd _ hc
  have hph : phr g = g 5 - 1 := if_neg h5
  have a1 := k_lengthOf p l le nw od (g 0) (g 1) (g 4) (gP g) (gL g) hr h4 (g 5 - 1) hc
  have a2 := k_widthCodes fu hf p l le nw od (g 0) (g 1) (g 4) h4
  have a3 := k_noRoom p l le nw od (g 0) (g 1) (g 4) h1 h4
  have a4 := k_percent fu hf p l le nw od (g 0) (g 1) (g 4) (g 2) (g 3) (g 5 - 1) en el wr wi (g 7) (sm (gwd_ g) 0 (g 7)) (g 8) (g 7 - g 9) (gss g) (gbs g) (gbs g + bw (g 4)) (gss g + (gph g (g 5 - 1)).length) h0 (by omega) (by unfold gph; omega)
  have hq := pcn_le (g 0) (gbs g + bw (g 4)) (gss g + (gph g (g 5 - 1)).length) (by omega)
  unfold J_X2_asksForClearing
  rw [asked_gWr hm hc, hph]
  unfold gph at a4 hq ⊢
  simp (disch := first | omega | assumption) only [e_d, e_policy, e_limit, e_phrase, e_encoded, e_encodedLength, e_written, e_widths, e_writtenLength, e_bits, e_clears, e_recentCodes, e_recentSymbols, e_recentBits, mkE, eN, nq_neg, nq_fix, nq_sub1, nq_addN, nq_add, nq_mul, nq_sub, nq_ltN, nq_Nlt, nq_leN, nq_Nle, nq_lt, nq_le, nq_eq, nq_div, nq_pow, nq_tn, rd_W, wr_W, nS_eq, nS_ne, Option.bind_some, Option.bind_none, ↓reduceIte, Bool.false_eq_true, Nat.reduceEqDiff, Nat.reduceLT, Nat.reduceLeDiff, Nat.reduceAdd, Nat.reduceMul, Nat.reduceSub, Nat.reducePow, Nat.add_sub_cancel, Nat.zero_le, Nat.not_lt_zero, Nat.le_refl, Nat.lt_irrefl, l_0, l_1, l_2, l_3, l_4, l_5, l_6, l_7, l_8, l_9, l_10, l_13, l_14, l_16, l_20, l_24, l_26, l_30, l_31, l_32, l_48, l_57, l_59, l_63, l_96, l_97, l_100, l_122, l_200, l_255, l_256, l_270, l_400, l_429, l_526, l_780, l_800, l_926, l_1726, l_12082] at a4 ⊢
  simp (disch := first | omega | assumption) only [a3, a1, a2, nq_neg, nq_fix, nq_sub1, nq_addN, nq_add, nq_mul, nq_sub, nq_ltN, nq_Nlt, nq_leN, nq_Nle, nq_lt, nq_le, nq_eq, nq_div, nq_pow, nq_tn, rd_W, wr_W, nS_eq, nS_ne, Option.bind_some, Option.bind_none, ↓reduceIte, Bool.false_eq_true, Nat.reduceEqDiff, Nat.reduceLT, Nat.reduceLeDiff, Nat.reduceAdd, Nat.reduceMul, Nat.reduceSub, Nat.reducePow, Nat.add_sub_cancel, Nat.zero_le, Nat.not_lt_zero, Nat.le_refl, Nat.lt_irrefl, l_0, l_1, l_2, l_3, l_4, l_5, l_6, l_7, l_8, l_9, l_10, l_13, l_14, l_16, l_20, l_24, l_26, l_30, l_31, l_32, l_48, l_57, l_59, l_63, l_96, l_97, l_100, l_122, l_200, l_255, l_256, l_270, l_400, l_429, l_526, l_780, l_800, l_926, l_1726, l_12082]
  by_cases h6 : g 4 < 2 ^ g 1
  · simp (disch := first | omega | assumption) only [nq_neg, nq_fix, nq_sub1, nq_addN, nq_add, nq_mul, nq_sub, nq_ltN, nq_Nlt, nq_leN, nq_Nle, nq_lt, nq_le, nq_eq, nq_div, nq_pow, nq_tn, rd_W, wr_W, nS_eq, nS_ne, Option.bind_some, Option.bind_none, ↓reduceIte, Bool.false_eq_true, Nat.reduceEqDiff, Nat.reduceLT, Nat.reduceLeDiff, Nat.reduceAdd, Nat.reduceMul, Nat.reduceSub, Nat.reducePow, Nat.add_sub_cancel, Nat.zero_le, Nat.not_lt_zero, Nat.le_refl, Nat.lt_irrefl, l_0, l_1, l_2, l_3, l_4, l_5, l_6, l_7, l_8, l_9, l_10, l_13, l_14, l_16, l_20, l_24, l_26, l_30, l_31, l_32, l_48, l_57, l_59, l_63, l_96, l_97, l_100, l_122, l_200, l_255, l_256, l_270, l_400, l_429, l_526, l_780, l_800, l_926, l_1726, l_12082, h6, show ¬ (g 4 = 2 ^ g 1) by omega]
    simp
  · have h8 : g 4 = 2 ^ g 1 := by omega
    simp (disch := first | omega | assumption) only [nq_neg, nq_fix, nq_sub1, nq_addN, nq_add, nq_mul, nq_sub, nq_ltN, nq_Nlt, nq_leN, nq_Nle, nq_lt, nq_le, nq_eq, nq_div, nq_pow, nq_tn, rd_W, wr_W, nS_eq, nS_ne, Option.bind_some, Option.bind_none, ↓reduceIte, Bool.false_eq_true, Nat.reduceEqDiff, Nat.reduceLT, Nat.reduceLeDiff, Nat.reduceAdd, Nat.reduceMul, Nat.reduceSub, Nat.reducePow, Nat.add_sub_cancel, Nat.zero_le, Nat.not_lt_zero, Nat.le_refl, Nat.lt_irrefl, l_0, l_1, l_2, l_3, l_4, l_5, l_6, l_7, l_8, l_9, l_10, l_13, l_14, l_16, l_20, l_24, l_26, l_30, l_31, l_32, l_48, l_57, l_59, l_63, l_96, l_97, l_100, l_122, l_200, l_255, l_256, l_270, l_400, l_429, l_526, l_780, l_800, l_926, l_1726, l_12082, h6]
    by_cases h9 : g 2 = 0
    · simp [h9]
    · by_cases h10 : g 2 = 1
      · simp (disch := first | omega | assumption) only [nq_neg, nq_fix, nq_sub1, nq_addN, nq_add, nq_mul, nq_sub, nq_ltN, nq_Nlt, nq_leN, nq_Nle, nq_lt, nq_le, nq_eq, nq_div, nq_pow, nq_tn, rd_W, wr_W, nS_eq, nS_ne, Option.bind_some, Option.bind_none, ↓reduceIte, Bool.false_eq_true, Nat.reduceEqDiff, Nat.reduceLT, Nat.reduceLeDiff, Nat.reduceAdd, Nat.reduceMul, Nat.reduceSub, Nat.reducePow, Nat.add_sub_cancel, Nat.zero_le, Nat.not_lt_zero, Nat.le_refl, Nat.lt_irrefl, l_0, l_1, l_2, l_3, l_4, l_5, l_6, l_7, l_8, l_9, l_10, l_13, l_14, l_16, l_20, l_24, l_26, l_30, l_31, l_32, l_48, l_57, l_59, l_63, l_96, l_97, l_100, l_122, l_200, l_255, l_256, l_270, l_400, l_429, l_526, l_780, l_800, l_926, l_1726, l_12082, h10]
        simp [h8]
      · have h11 : g 2 = 2 := by omega
        rw [h11] at a4 ⊢
        simp (disch := first | omega | assumption) only [nq_neg, nq_fix, nq_sub1, nq_addN, nq_add, nq_mul, nq_sub, nq_ltN, nq_Nlt, nq_leN, nq_Nle, nq_lt, nq_le, nq_eq, nq_div, nq_pow, nq_tn, rd_W, wr_W, nS_eq, nS_ne, Option.bind_some, Option.bind_none, ↓reduceIte, Bool.false_eq_true, Nat.reduceEqDiff, Nat.reduceLT, Nat.reduceLeDiff, Nat.reduceAdd, Nat.reduceMul, Nat.reduceSub, Nat.reducePow, Nat.add_sub_cancel, Nat.zero_le, Nat.not_lt_zero, Nat.le_refl, Nat.lt_irrefl, l_0, l_1, l_2, l_3, l_4, l_5, l_6, l_7, l_8, l_9, l_10, l_13, l_14, l_16, l_20, l_24, l_26, l_30, l_31, l_32, l_48, l_57, l_59, l_63, l_96, l_97, l_100, l_122, l_200, l_255, l_256, l_270, l_400, l_429, l_526, l_780, l_800, l_926, l_1726, l_12082, a4]
        rw [decide_eq_true h8]
        by_cases h12 : g 3 < pcn (g 0) (gbs g + bw (g 4)) (gss g + (ph (g 0) (gP g) (gL g) (g 5 - 1)).length)
        · rw [if_neg (Nat.not_le.mpr h12), decide_eq_true h12]
          rfl
        · rw [if_pos (Nat.not_lt.mp h12), decide_eq_false h12]
          rfl
def cdN (g : Nat → Nat) (s : Nat) : Nat := if g 5 = 0 then 0 else if gk g (g 5 - 1) s = 4294967295 then (if asked (gWr g (g 5 - 1)) = true then 2 else 1) else 0
theorem k_codesFor (fu : Nat) (hf : 300 ≤ fu) {e : ES} {g : Nat → Nat} {el : Nat} (h : RQ e g el) (hm : MB g) (h2 : g 2 ≤ 2) (h3 : g 3 ≤ 200) (h5 : g 5 ≤ g 4) (s : Nat) (hs : s < g 0) :
    J_X2_codesFor fu e (nI s) = some (nI (cdN g s)) := by
  have ha := fun x y => k_asks fu hf h hm h2 h3 x y
  obtain ⟨p, l, le, nw, od, en, wr, wi, rfl, hr, hen, hw⟩ := h
  obtain ⟨hd, hp, h97, h7, hcc, hv⟩ := id hm
  obtain ⟨⟨_, h0, _, h1, hz, h4⟩, wd, ud⟩ := id hd
  unfold J_X2_codesFor cdN
  by_cases h6 : g 5 = 0
  · have hph : phr g = 4294967295 := if_pos h6
    rw [hph]
    simp (disch := first | omega | assumption) only [e_d, e_policy, e_limit, e_phrase, e_encoded, e_encodedLength, e_written, e_widths, e_writtenLength, e_bits, e_clears, e_recentCodes, e_recentSymbols, e_recentBits, mkE, eN, nq_neg, nq_fix, nq_sub1, nq_addN, nq_add, nq_mul, nq_sub, nq_ltN, nq_Nlt, nq_leN, nq_Nle, nq_lt, nq_le, nq_eq, nq_div, nq_pow, nq_tn, rd_W, wr_W, nS_eq, nS_ne, Option.bind_some, Option.bind_none, ↓reduceIte, Bool.false_eq_true, Nat.reduceEqDiff, Nat.reduceLT, Nat.reduceLeDiff, Nat.reduceAdd, Nat.reduceMul, Nat.reduceSub, Nat.reducePow, Nat.add_sub_cancel, Nat.zero_le, Nat.not_lt_zero, Nat.le_refl, Nat.lt_irrefl, l_0, l_1, l_2, l_3, l_4, l_5, l_6, l_7, l_8, l_9, l_10, l_13, l_14, l_16, l_20, l_24, l_26, l_30, l_31, l_32, l_48, l_57, l_59, l_63, l_96, l_97, l_100, l_122, l_200, l_255, l_256, l_270, l_400, l_429, l_526, l_780, l_800, l_926, l_1726, l_12082, h6]
  · have hph : phr g = g 5 - 1 := if_neg h6
    have a1 := k_longerBy fu hf p l le nw od (g 0) (g 1) (g 4) (gP g) (gL g) hr wd ud (by omega) h4 (g 5 - 1) s (by omega) hs
    have ha := ha h6 (by omega)
    have hk := gk_cases (g := g) (g 5 - 1) s
    rw [hph] at ha ⊢
    rw [show kidS (g 0) (gP g) (gL g) (g 5 - 1) s (g 4) = gk g (g 5 - 1) s from rfl] at a1
    simp (disch := first | omega | assumption) only [e_d, e_policy, e_limit, e_phrase, e_encoded, e_encodedLength, e_written, e_widths, e_writtenLength, e_bits, e_clears, e_recentCodes, e_recentSymbols, e_recentBits, mkE, eN, nq_neg, nq_fix, nq_sub1, nq_addN, nq_add, nq_mul, nq_sub, nq_ltN, nq_Nlt, nq_leN, nq_Nle, nq_lt, nq_le, nq_eq, nq_div, nq_pow, nq_tn, rd_W, wr_W, nS_eq, nS_ne, Option.bind_some, Option.bind_none, ↓reduceIte, Bool.false_eq_true, Nat.reduceEqDiff, Nat.reduceLT, Nat.reduceLeDiff, Nat.reduceAdd, Nat.reduceMul, Nat.reduceSub, Nat.reducePow, Nat.add_sub_cancel, Nat.zero_le, Nat.not_lt_zero, Nat.le_refl, Nat.lt_irrefl, l_0, l_1, l_2, l_3, l_4, l_5, l_6, l_7, l_8, l_9, l_10, l_13, l_14, l_16, l_20, l_24, l_26, l_30, l_31, l_32, l_48, l_57, l_59, l_63, l_96, l_97, l_100, l_122, l_200, l_255, l_256, l_270, l_400, l_429, l_526, l_780, l_800, l_926, l_1726, l_12082] at ha ⊢
    simp (disch := first | omega | assumption) only [a1, ha, nq_neg, nq_fix, nq_sub1, nq_addN, nq_add, nq_mul, nq_sub, nq_ltN, nq_Nlt, nq_leN, nq_Nle, nq_lt, nq_le, nq_eq, nq_div, nq_pow, nq_tn, rd_W, wr_W, nS_eq, nS_ne, Option.bind_some, Option.bind_none, ↓reduceIte, Bool.false_eq_true, Nat.reduceEqDiff, Nat.reduceLT, Nat.reduceLeDiff, Nat.reduceAdd, Nat.reduceMul, Nat.reduceSub, Nat.reducePow, Nat.add_sub_cancel, Nat.zero_le, Nat.not_lt_zero, Nat.le_refl, Nat.lt_irrefl, l_0, l_1, l_2, l_3, l_4, l_5, l_6, l_7, l_8, l_9, l_10, l_13, l_14, l_16, l_20, l_24, l_26, l_30, l_31, l_32, l_48, l_57, l_59, l_63, l_96, l_97, l_100, l_122, l_200, l_255, l_256, l_270, l_400, l_429, l_526, l_780, l_800, l_926, l_1726, l_12082, h6, show ¬ (g 5 - 1 = 4294967295) by omega]
    by_cases h7 : gk g (g 5 - 1) s = 4294967295
    · rw [if_pos h7, if_pos h7]
      by_cases h8 : asked (gWr g (g 5 - 1)) = true
      · simp (disch := first | omega | assumption) only [nq_neg, nq_fix, nq_sub1, nq_addN, nq_add, nq_mul, nq_sub, nq_ltN, nq_Nlt, nq_leN, nq_Nle, nq_lt, nq_le, nq_eq, nq_div, nq_pow, nq_tn, rd_W, wr_W, nS_eq, nS_ne, Option.bind_some, Option.bind_none, ↓reduceIte, Bool.false_eq_true, Nat.reduceEqDiff, Nat.reduceLT, Nat.reduceLeDiff, Nat.reduceAdd, Nat.reduceMul, Nat.reduceSub, Nat.reducePow, Nat.add_sub_cancel, Nat.zero_le, Nat.not_lt_zero, Nat.le_refl, Nat.lt_irrefl, l_0, l_1, l_2, l_3, l_4, l_5, l_6, l_7, l_8, l_9, l_10, l_13, l_14, l_16, l_20, l_24, l_26, l_30, l_31, l_32, l_48, l_57, l_59, l_63, l_96, l_97, l_100, l_122, l_200, l_255, l_256, l_270, l_400, l_429, l_526, l_780, l_800, l_926, l_1726, l_12082, h8]
      · simp (disch := first | omega | assumption) only [nq_neg, nq_fix, nq_sub1, nq_addN, nq_add, nq_mul, nq_sub, nq_ltN, nq_Nlt, nq_leN, nq_Nle, nq_lt, nq_le, nq_eq, nq_div, nq_pow, nq_tn, rd_W, wr_W, nS_eq, nS_ne, Option.bind_some, Option.bind_none, ↓reduceIte, Bool.false_eq_true, Nat.reduceEqDiff, Nat.reduceLT, Nat.reduceLeDiff, Nat.reduceAdd, Nat.reduceMul, Nat.reduceSub, Nat.reducePow, Nat.add_sub_cancel, Nat.zero_le, Nat.not_lt_zero, Nat.le_refl, Nat.lt_irrefl, l_0, l_1, l_2, l_3, l_4, l_5, l_6, l_7, l_8, l_9, l_10, l_13, l_14, l_16, l_20, l_24, l_26, l_30, l_31, l_32, l_48, l_57, l_59, l_63, l_96, l_97, l_100, l_122, l_200, l_255, l_256, l_270, l_400, l_429, l_526, l_780, l_800, l_926, l_1726, l_12082, h8]
    · rw [if_neg h7, if_neg h7]
theorem RQ_of {e : ES} {g' g : Nat → Nat} {el : Nat} (h : RQ e g el) (hm : MB g) (hel : el ≤ 400) (e2 : g' 2 = g 2) (e3 : g' 3 = g 3) (e5 : g' 5 = g 5) (e7 : g' 7 = g 7) (e8 : g' 8 = g 8) (e9 : g' 9 = g 9) (ed : DE g' g) (es : ∀ i, i < el → g' (526 + i) = g (526 + i)) (ec : ∀ i, i < g 7 → g' (926 + i) = g (926 + i)) : RQ e g' el := by
  obtain ⟨p, l, le, nw, od, en, wr, wi, rfl, hr, hen, hw⟩ := h
  obtain ⟨hd, hp, h97, h7, hcc, hv⟩ := id hm
  obtain ⟨d, ep⟩ := gph_of hd ed
  have hcd : ∀ i, i < g 7 → gcd_ g' i = gcd_ g i ∧ gwd_ g' i = gwd_ g i := fun i hi => by unfold gcd_ gwd_; rw [ec i hi]; exact ⟨rfl, rfl⟩
  have h1 : gbs g' = gbs g := by unfold gbs; rw [e9, e7]; exact sm_congr _ _ _ _ fun k _ hk => (hcd k hk).2
  have h2 : gss g' = gss g := by
    unfold gss; rw [e9, e7]
    exact sm_congr _ _ _ _ fun k hk0 hk => by unfold gln; rw [(hcd k hk).1, ep _ (hv k hk0 hk)]
  have h3 : sm (gwd_ g') 0 (g 7) = sm (gwd_ g) 0 (g 7) := sm_congr _ _ _ _ fun k _ hk => (hcd k hk).2
  refine ⟨p, l, le, nw, od, en, wr, wi, ?_, RD_of hr hd ed, fun i hi => ?_, fun i hi => ?_⟩
  · unfold phr
    rw [e2, e3, e5, e7, e8, e9, h1, h2, h3, ed.1, ed.2.1, ed.2.2.1]
  · rw [hen i hi, es i hi]
  · rw [e7] at hi
    rw [(hcd i hi).1, (hcd i hi).2]; exact hw i hi
/-! the class's encoder: a symbol is taken, a phrase ended -/
theorem gP5 (g : Nat → Nat) (v : Nat) : gP (nS g 5 v) = gP g ∧ gL (nS g 5 v) = gL g := by
  constructor
  · funext k; exact nS_ne g 5 v (14 + k) (by omega)
  · funext k; exact nS_ne g 5 v (270 + k) (by omega)
theorem g5_sm (g : Nat → Nat) (v : Nat) : gbs (nS g 5 v) = gbs g ∧ gss (nS g 5 v) = gss g ∧ gwd_ (nS g 5 v) = gwd_ g ∧ gcd_ (nS g 5 v) = gcd_ g := by
  have h1 : gwd_ (nS g 5 v) = gwd_ g := by funext k; unfold gwd_; simp (disch := omega) only [nS_eq, nS_ne]
  have h2 : gcd_ (nS g 5 v) = gcd_ g := by funext k; unfold gcd_; simp (disch := omega) only [nS_eq, nS_ne]
  have h3 : gln (nS g 5 v) = gln g := by
    funext k
    unfold gln gph
    rw [h2, (gP5 g v).1, (gP5 g v).2]
    simp (disch := omega) only [nS_eq, nS_ne]
  refine ⟨?_, ?_, h1, h2⟩
  · unfold gbs; rw [h1]; simp (disch := omega) only [nS_eq, nS_ne]
  · unfold gss; rw [h3]; simp (disch := omega) only [nS_eq, nS_ne]
theorem RQ_ph {e : ES} {g : Nat → Nat} {el v : Nat} (h : RQ e g el) : RQ (mkE (e_d e) (e_policy e) (e_limit e) (nI (phr (nS g 5 v))) (e_encoded e) (e_encodedLength e) (e_written e) (e_widths e) (e_writtenLength e) (e_bits e) (e_clears e) (e_recentCodes e) (e_recentSymbols e) (e_recentBits e)) (nS g 5 v) el := by
  obtain ⟨p, l, le, nw, od, en, wr, wi, rfl, hr, hen, hw⟩ := h
  obtain ⟨s1, s2, s3, s4⟩ := g5_sm g v
  refine ⟨p, l, le, nw, od, en, wr, wi, ?_, ?_, fun i hi => ?_, fun i hi => ?_⟩
  · rw [s1, s2, s3]
    simp (disch := omega) only [e_d, e_policy, e_limit, e_phrase, e_encoded, e_encodedLength, e_written, e_widths, e_writtenLength, e_bits, e_clears, e_recentCodes, e_recentSymbols, e_recentBits, mkE, eN, nS_ne]
  · rw [(gP5 g v).1, (gP5 g v).2, nS_ne g 5 v 0 (by omega), nS_ne g 5 v 4 (by omega)]
    exact hr
  · rw [nS_ne g 5 v _ (by omega)]; exact hen i hi
  · rw [s3, s4]
    rw [nS_ne g 5 v 7 (by omega)] at hi
    exact hw i hi
theorem k_b56 (fu : Nat) {e : ES} {g : Nat → Nat} {el s : Nat} (c : Nat) (h : RQ e g el) (hel : el < 400) (hs : g (526 + el) = s) : ∃ e', J_X2_takeSymbol_b56 fu e (nI s) (nI c) = some (nI c, e') ∧ RQ e' g (el + 1) := by
  obtain ⟨p, l, le, nw, od, en, wr, wi, rfl, hr, hen, hw⟩ := h
  refine ⟨eN (dN p l le nw od (g 0) (g 1) (g 4)) (g 2) (g 3) (phr g) (nS en el s) (el + 1) wr wi (g 7) (sm (gwd_ g) 0 (g 7)) (g 8) (g 7 - g 9) (gss g) (gbs g), ?_, ?_⟩
  · have e3 := k_put 400 en el s hel (by omega)
    unfold J_X2_takeSymbol_b56
    simp (disch := first | omega | assumption) only [e_d, e_policy, e_limit, e_phrase, e_encoded, e_encodedLength, e_written, e_widths, e_writtenLength, e_bits, e_clears, e_recentCodes, e_recentSymbols, e_recentBits, mkE, eN, nq_neg, nq_fix, nq_sub1, nq_addN, nq_add, nq_mul, nq_sub, nq_ltN, nq_Nlt, nq_leN, nq_Nle, nq_lt, nq_le, nq_eq, nq_div, nq_pow, nq_tn, rd_W, wr_W, nS_eq, nS_ne, Option.bind_some, Option.bind_none, ↓reduceIte, Bool.false_eq_true, Nat.reduceEqDiff, Nat.reduceLT, Nat.reduceLeDiff, Nat.reduceAdd, Nat.reduceMul, Nat.reduceSub, Nat.reducePow, Nat.add_sub_cancel, Nat.zero_le, Nat.not_lt_zero, Nat.le_refl, Nat.lt_irrefl, l_0, l_1, l_2, l_3, l_4, l_5, l_6, l_7, l_8, l_9, l_10, l_13, l_14, l_16, l_20, l_24, l_26, l_30, l_31, l_32, l_48, l_57, l_59, l_63, l_96, l_97, l_100, l_122, l_200, l_255, l_256, l_270, l_400, l_429, l_526, l_780, l_800, l_926, l_1726, l_12082, e3]
  · refine ⟨p, l, le, nw, od, nS en el s, wr, wi, rfl, hr, fun i hi => ?_, hw⟩
    by_cases h1 : i = el
    · subst h1; rw [nS_eq, hs]
    · rw [nS_ne _ _ _ _ h1]; exact hen i (by omega)
theorem k_repl (fu : Nat) (hf : 300 ≤ fu) {e : ES} {g : Nat → Nat} {el s : Nat} (h : RQ e g el) (hm : MB g) (h7 : g 7 < 799) (hel : el ≤ 400) (h5 : g 5 ≠ 0) (hc : g 5 - 1 < g 4) (hcz : g 5 - 1 ≠ g 0) (hs : s < g 0) (hk : gk g (g 5 - 1) s = 4294967295) :
    ∃ e', J_X2_replacePhrase fu e (nI s) (nI (if asked (gWr g (g 5 - 1)) = true then 1 else 0)) = some e' ∧ RQ e' (gEP g (g 5 - 1) s) el := by
  obtain ⟨hd, hp, h97, _, hcc, hv⟩ := id hm
  obtain ⟨⟨_, h0, _, h1, hz, h4⟩, wd, ud⟩ := id hd
  obtain ⟨e1, a1, q1⟩ := k_wr fu hf h hm (by omega) hel h5 hc
  have hm1 := gWr_MB hm (by omega) hc
  obtain ⟨e0, ee1, e2, e3, e4, e5, e6, e7, e8, e9, e13⟩ := gWr_at g (g 5 - 1)
  have hph : ∀ g : Nat → Nat, phr (nS g 5 (s + 1)) = s := fun g => by
    unfold phr
    rw [nS_eq, if_neg (by omega)]
    rfl
  unfold J_X2_replacePhrase gEP
  rw [a1]
  simp only [Option.bind_some]
  by_cases h8 : asked (gWr g (g 5 - 1)) = true
  · obtain ⟨e', a2, q2⟩ := k_cl fu hf q1 hm1 (by omega) hel
    rw [if_pos h8, if_pos h8]
    refine ⟨_, ?_, RQ_ph (v := s + 1) q2⟩
    rw [hph]
    simp (disch := first | omega | assumption) only [nq_neg, nq_fix, nq_sub1, nq_addN, nq_add, nq_mul, nq_sub, nq_ltN, nq_Nlt, nq_leN, nq_Nle, nq_lt, nq_le, nq_eq, nq_div, nq_pow, nq_tn, rd_W, wr_W, nS_eq, nS_ne, Option.bind_some, Option.bind_none, ↓reduceIte, Bool.false_eq_true, Nat.reduceEqDiff, Nat.reduceLT, Nat.reduceLeDiff, Nat.reduceAdd, Nat.reduceMul, Nat.reduceSub, Nat.reducePow, Nat.add_sub_cancel, Nat.zero_le, Nat.not_lt_zero, Nat.le_refl, Nat.lt_irrefl, l_0, l_1, l_2, l_3, l_4, l_5, l_6, l_7, l_8, l_9, l_10, l_13, l_14, l_16, l_20, l_24, l_26, l_30, l_31, l_32, l_48, l_57, l_59, l_63, l_96, l_97, l_100, l_122, l_200, l_255, l_256, l_270, l_400, l_429, l_526, l_780, l_800, l_926, l_1726, l_12082, a2]
    rfl
  · rw [if_neg h8, if_neg h8]
    obtain ⟨p, l, le, nw, od, en, wr, wi, he, hr, hen, hw⟩ := id q1
    have a3 := k_noRoom p l le nw od (gWr g (g 5 - 1) 0) (gWr g (g 5 - 1) 1) (gWr g (g 5 - 1) 4) (by omega) (by omega)
    rw [e0, ee1, e4] at a3
    by_cases h9 : g 4 = 2 ^ g 1
    · rw [if_pos h9]
      refine ⟨_, ?_, RQ_ph (v := s + 1) q1⟩
      rw [hph, he, e0, ee1, e4]
      simp (disch := first | omega | assumption) only [e_d, e_policy, e_limit, e_phrase, e_encoded, e_encodedLength, e_written, e_widths, e_writtenLength, e_bits, e_clears, e_recentCodes, e_recentSymbols, e_recentBits, mkE, eN, nq_neg, nq_fix, nq_sub1, nq_addN, nq_add, nq_mul, nq_sub, nq_ltN, nq_Nlt, nq_leN, nq_Nle, nq_lt, nq_le, nq_eq, nq_div, nq_pow, nq_tn, rd_W, wr_W, nS_eq, nS_ne, Option.bind_some, Option.bind_none, ↓reduceIte, Bool.false_eq_true, Nat.reduceEqDiff, Nat.reduceLT, Nat.reduceLeDiff, Nat.reduceAdd, Nat.reduceMul, Nat.reduceSub, Nat.reducePow, Nat.add_sub_cancel, Nat.zero_le, Nat.not_lt_zero, Nat.le_refl, Nat.lt_irrefl, l_0, l_1, l_2, l_3, l_4, l_5, l_6, l_7, l_8, l_9, l_10, l_13, l_14, l_16, l_20, l_24, l_26, l_30, l_31, l_32, l_48, l_57, l_59, l_63, l_96, l_97, l_100, l_122, l_200, l_255, l_256, l_270, l_400, l_429, l_526, l_780, l_800, l_926, l_1726, l_12082]
      simp (disch := first | omega | assumption) only [a3, nq_neg, nq_fix, nq_sub1, nq_addN, nq_add, nq_mul, nq_sub, nq_ltN, nq_Nlt, nq_leN, nq_Nle, nq_lt, nq_le, nq_eq, nq_div, nq_pow, nq_tn, rd_W, wr_W, nS_eq, nS_ne, Option.bind_some, Option.bind_none, ↓reduceIte, Bool.false_eq_true, Nat.reduceEqDiff, Nat.reduceLT, Nat.reduceLeDiff, Nat.reduceAdd, Nat.reduceMul, Nat.reduceSub, Nat.reducePow, Nat.add_sub_cancel, Nat.zero_le, Nat.not_lt_zero, Nat.le_refl, Nat.lt_irrefl, l_0, l_1, l_2, l_3, l_4, l_5, l_6, l_7, l_8, l_9, l_10, l_13, l_14, l_16, l_20, l_24, l_26, l_30, l_31, l_32, l_48, l_57, l_59, l_63, l_96, l_97, l_100, l_122, l_200, l_255, l_256, l_270, l_400, l_429, l_526, l_780, l_800, l_926, l_1726, l_12082, show ¬ (g 4 < 2 ^ g 1) by omega]
      rfl
    · rw [if_neg h9]
      have hp2 := pow_le8 (g 1) h1
      have hk1 : gk (gWr g (g 5 - 1)) (g 5 - 1) s = 4294967295 := by rw [gk_of hd (DE_gWr g _)]; exact hk
      obtain ⟨p', l', le', nw', od', a4, r4⟩ := k_ad fu hf (en := en) (wr := wr) (wi := wi) hr hm1 (by omega) (c := g 5 - 1) (s := s) (by omega) (by omega) (by omega)
      obtain ⟨dl, el4⟩ := gLearn_DI hm1.1 (c := g 5 - 1) (s := s) (by omega) (by omega) (by omega) (by omega) hk1
      have q4 : RQ (eN (dN p' l' le' nw' od' (g 0) (g 1) (g 4 + 1)) (g 2) (g 3) (g 5 - 1) en el wr wi (g 7 + 1) (sm (gwd_ (gWr g (g 5 - 1))) 0 (g 7 + 1)) (g 8) (g 7 + 1 - g 9) (gss (gWr g (g 5 - 1))) (gbs (gWr g (g 5 - 1)))) (gLearn (gWr g (g 5 - 1)) (g 5 - 1) s) el := by
        have la := gLearn_at (gWr g (g 5 - 1)) (g 5 - 1) s
        have l4 : gLearn (gWr g (g 5 - 1)) (g 5 - 1) s 4 = g 4 + 1 := by rw [← e4]; unfold gLearn; simp (disch := omega) only [nS_eq, nS_ne]
        have lc : ∀ i, gcd_ (gLearn (gWr g (g 5 - 1)) (g 5 - 1) s) i = gcd_ (gWr g (g 5 - 1)) i ∧ gwd_ (gLearn (gWr g (g 5 - 1)) (g 5 - 1) s) i = gwd_ (gWr g (g 5 - 1)) i := fun i => by
          unfold gcd_ gwd_
          rw [la (926 + i) (by omega) (by omega) (by omega)]
          exact ⟨rfl, rfl⟩
        have l0 := la 0 (by omega) (by omega) (by omega)
        have l1 := la 1 (by omega) (by omega) (by omega)
        have l2 := la 2 (by omega) (by omega) (by omega)
        have l3 := la 3 (by omega) (by omega) (by omega)
        have l5 := la 5 (by omega) (by omega) (by omega)
        have l7 := la 7 (by omega) (by omega) (by omega)
        have l8 := la 8 (by omega) (by omega) (by omega)
        have l9 := la 9 (by omega) (by omega) (by omega)
        have lb : gbs (gLearn (gWr g (g 5 - 1)) (g 5 - 1) s) = gbs (gWr g (g 5 - 1)) := by
          unfold gbs; rw [l9, l7]; exact sm_congr _ _ _ _ fun k _ _ => (lc k).2
        have ls : gss (gLearn (gWr g (g 5 - 1)) (g 5 - 1) s) = gss (gWr g (g 5 - 1)) := by
          unfold gss; rw [l9, l7]
          exact sm_congr _ _ _ _ fun k hk0 hk => by unfold gln; rw [(lc k).1, el4 _ (hm1.2.2.2.2.2 k hk0 hk)]
        refine ⟨p', l', le', nw', od', en, wr, wi, ?_, ?_, fun i hi => ?_, fun i hi => ?_⟩
        · unfold phr
          rw [l0, l1, l2, l3, l4, l5, l7, l8, l9, lb, ls, e0, ee1, e2, e3, e5, e7, e8, e9, if_neg h5]
          rw [sm_congr _ _ 0 (g 7 + 1) fun k _ _ => (lc k).2]
        · rw [l0, l4, e0]
          rw [e0, e4] at r4
          exact r4
        · rw [hen i hi, la _ (by omega) (by omega) (by omega)]
        · rw [(lc i).1, (lc i).2]; exact hw i (by omega)
      refine ⟨_, ?_, RQ_ph (v := s + 1) q4⟩
      rw [e0, ee1, e4] at a4
      unfold J_X2_replacePhrase_b38
      rw [hph, he]
      unfold phr
      rw [e0, ee1, e2, e3, e4, e5, e7, e8, e9, if_neg h5]
      simp (disch := first | omega | assumption) only [e_d, e_policy, e_limit, e_phrase, e_encoded, e_encodedLength, e_written, e_widths, e_writtenLength, e_bits, e_clears, e_recentCodes, e_recentSymbols, e_recentBits, mkE, eN, nq_neg, nq_fix, nq_sub1, nq_addN, nq_add, nq_mul, nq_sub, nq_ltN, nq_Nlt, nq_leN, nq_Nle, nq_lt, nq_le, nq_eq, nq_div, nq_pow, nq_tn, rd_W, wr_W, nS_eq, nS_ne, Option.bind_some, Option.bind_none, ↓reduceIte, Bool.false_eq_true, Nat.reduceEqDiff, Nat.reduceLT, Nat.reduceLeDiff, Nat.reduceAdd, Nat.reduceMul, Nat.reduceSub, Nat.reducePow, Nat.add_sub_cancel, Nat.zero_le, Nat.not_lt_zero, Nat.le_refl, Nat.lt_irrefl, l_0, l_1, l_2, l_3, l_4, l_5, l_6, l_7, l_8, l_9, l_10, l_13, l_14, l_16, l_20, l_24, l_26, l_30, l_31, l_32, l_48, l_57, l_59, l_63, l_96, l_97, l_100, l_122, l_200, l_255, l_256, l_270, l_400, l_429, l_526, l_780, l_800, l_926, l_1726, l_12082] at a4 ⊢
      simp (disch := first | omega | assumption) only [a3, a4, nq_neg, nq_fix, nq_sub1, nq_addN, nq_add, nq_mul, nq_sub, nq_ltN, nq_Nlt, nq_leN, nq_Nle, nq_lt, nq_le, nq_eq, nq_div, nq_pow, nq_tn, rd_W, wr_W, nS_eq, nS_ne, Option.bind_some, Option.bind_none, ↓reduceIte, Bool.false_eq_true, Nat.reduceEqDiff, Nat.reduceLT, Nat.reduceLeDiff, Nat.reduceAdd, Nat.reduceMul, Nat.reduceSub, Nat.reducePow, Nat.add_sub_cancel, Nat.zero_le, Nat.not_lt_zero, Nat.le_refl, Nat.lt_irrefl, l_0, l_1, l_2, l_3, l_4, l_5, l_6, l_7, l_8, l_9, l_10, l_13, l_14, l_16, l_20, l_24, l_26, l_30, l_31, l_32, l_48, l_57, l_59, l_63, l_96, l_97, l_100, l_122, l_200, l_255, l_256, l_270, l_400, l_429, l_526, l_780, l_800, l_926, l_1726, l_12082, show g 4 < 2 ^ g 1 by omega]
/-! the class's encoder: the acts -/
def gS (g : Nat → Nat) (s : Nat) : Nat → Nat := nS (nS g (526 + g 6) s) 6 (g 6 + 1)
theorem gS_at (g : Nat → Nat) (s k : Nat) (h1 : k ≠ 6) (h2 : k ≠ 526 + g 6) : gS g s k = g k := by
  unfold gS
  simp (disch := omega) only [nS_eq, nS_ne]
theorem gS_DE (g : Nat → Nat) (s : Nat) : DE (gS g s) g :=
  ⟨gS_at g s 0 (by omega) (by omega), gS_at g s 1 (by omega) (by omega), gS_at g s 4 (by omega) (by omega), fun k h1 h2 => gS_at g s k (by omega) (by omega)⟩
theorem gS_MB {g : Nat → Nat} (hm : MB g) (h6 : g 6 < 400) (s : Nat) : MB (gS g s) :=
  MB_of hm (gS_DE g s) (gS_at g s 7 (by omega) (by omega)) (gS_at g s 9 (by omega) (by omega)) (fun i hi => gS_at g s _ (by omega) (by omega))
theorem gEn_eq (g : Nat → Nat) (s : Nat) : gEn g s = if g 5 = 0 then nS (gS g s) 5 (s + 1) else if gk g (g 5 - 1) s = 4294967295 then gEP (gS g s) (g 5 - 1) s else nS (gS g s) 5 (gk g (g 5 - 1) s + 1) := rfl
theorem gEP_at (g : Nat → Nat) (c s : Nat) (hp : g 4 ≤ 2 ^ g 1) (h1 : g 1 ≤ 8) : gEP g c s 6 = g 6 ∧ gEP g c s 7 = g 7 + (if asked (gWr g c) = true then 2 else 1) ∧ ∀ k, 526 ≤ k → k < 926 → gEP g c s k = g k := by
  obtain ⟨e0, ee1, e2, e3, e4, e5, e6, e7, e8, e9, e13⟩ := gWr_at g c
  obtain ⟨f0, f1, f2, f3, f4, f5, f6, f7, f8, f9, f13⟩ := gWC_at (gWr g c)
  unfold gEP
  by_cases h : asked (gWr g c) = true
  · rw [if_pos h, if_pos h]
    refine ⟨by rw [nS_ne _ _ _ _ (by omega), f6, e6], by rw [nS_ne _ _ _ _ (by omega), f7, e7], fun k h1 h2 => ?_⟩
    rw [nS_ne _ _ _ _ (by omega), gWC_hi _ k (by omega) (by omega), gWr_lo g c k (by omega) h2]
  · rw [if_neg h, if_neg h]
    by_cases h9 : g 4 = 2 ^ g 1
    · rw [if_pos h9]
      exact ⟨by rw [nS_ne _ _ _ _ (by omega), e6], by rw [nS_ne _ _ _ _ (by omega), e7], fun k h1 h2 => by rw [nS_ne _ _ _ _ (by omega), gWr_lo g c k (by omega) h2]⟩
    · rw [if_neg h9]
      have hp2 := pow_le8 (g 1) h1
      have hx := gLearn_at (gWr g c) c s
      refine ⟨by rw [nS_ne _ _ _ _ (by omega), hx 6 (by omega) (by omega) (by omega), e6], by rw [nS_ne _ _ _ _ (by omega), hx 7 (by omega) (by omega) (by omega), e7], fun k h1 h2 => ?_⟩
      rw [nS_ne _ _ _ _ (by omega), hx k (by omega) (by omega) (by omega), gWr_lo g c k (by omega) h2]
theorem k_take (fu : Nat) (hf : 300 ≤ fu) {e : ES} {g : Nat → Nat} (h : RE e g) (hw : WB g) (h6 : g 6 < 400) {s : Nat} (hs : s < g 0) :
    ∃ e', J_X2_takeSymbol fu e (nI s) = some (nI (gEn g s 7 - g 7), e') ∧ RE e' (gEn g s) := by
  obtain ⟨hm, hq, h2, h31, h3, h5, h50, _, h7, hcov, h8, hsy, hcw⟩ := hw
  obtain ⟨hd, hp, h97, h7b, hcc, hv⟩ := id hm
  obtain ⟨⟨_, h0, _, h1, hz, h4⟩, wd, ud⟩ := id hd
  have m1 := gS_MB hm h6 s
  have t2 := gS_at g s 2 (by omega) (by omega)
  have t3 := gS_at g s 3 (by omega) (by omega)
  have t4 := gS_at g s 4 (by omega) (by omega)
  have t5 := gS_at g s 5 (by omega) (by omega)
  have t7 := gS_at g s 7 (by omega) (by omega)
  have t0 := gS_at g s 0 (by omega) (by omega)
  have t6 : gS g s 6 = g 6 + 1 := nS_eq _ _ _
  have ts : gS g s (526 + g 6) = s := by unfold gS; simp (disch := omega) only [nS_eq, nS_ne]
  have q1 : RQ e (gS g s) (g 6) := RQ_of h hm (by omega) t2 t3 t5 t7 (gS_at g s 8 (by omega) (by omega)) (gS_at g s 9 (by omega) (by omega)) (gS_DE g s)
    (fun i hi => gS_at g s _ (by omega) (by omega)) (fun i hi => gS_at g s _ (by omega) (by omega))
  have hcd := k_codesFor fu hf q1 m1 (by omega) (by omega) (by omega) s (by omega)
  have hgk : gk (gS g s) (g 5 - 1) s = gk g (g 5 - 1) s := gk_of hd (gS_DE g s) _ _
  have hph : ∀ v, v ≠ 0 → phr (nS (gS g s) 5 v) = v - 1 := fun v hv => by
    unfold phr
    rw [nS_eq, if_neg hv]
  unfold J_X2_takeSymbol
  rw [hcd, gEn_eq]
  unfold cdN
  rw [t5, hgk]
  simp only [Option.bind_some]
  by_cases c1 : g 5 = 0
  · rw [if_pos c1, if_pos c1]
    have q2 := RQ_ph (v := s + 1) q1
    rw [hph _ (by omega), Nat.add_sub_cancel] at q2
    obtain ⟨e', a, q3⟩ := k_b56 fu (s := s) (c := 0) q2 h6 (by rw [nS_ne _ _ _ _ (by omega)]; exact ts)
    refine ⟨e', ?_, ?_⟩
    · rw [nS_ne _ _ _ _ (by omega), t7, Nat.sub_self, ← a]
      obtain ⟨p, l, le, nw, od, en, wr, wi, he, hr, hen, hww⟩ := id q1
      have hph0 : phr (gS g s) = 4294967295 := if_pos (by rw [t5]; exact c1)
      rw [he, hph0]
      unfold J_X2_takeSymbol_b35
      simp (disch := first | omega | assumption) only [e_d, e_policy, e_limit, e_phrase, e_encoded, e_encodedLength, e_written, e_widths, e_writtenLength, e_bits, e_clears, e_recentCodes, e_recentSymbols, e_recentBits, mkE, eN, nq_neg, nq_fix, nq_sub1, nq_addN, nq_add, nq_mul, nq_sub, nq_ltN, nq_Nlt, nq_leN, nq_Nle, nq_lt, nq_le, nq_eq, nq_div, nq_pow, nq_tn, rd_W, wr_W, nS_eq, nS_ne, Option.bind_some, Option.bind_none, ↓reduceIte, Bool.false_eq_true, Nat.reduceEqDiff, Nat.reduceLT, Nat.reduceLeDiff, Nat.reduceAdd, Nat.reduceMul, Nat.reduceSub, Nat.reducePow, Nat.add_sub_cancel, Nat.zero_le, Nat.not_lt_zero, Nat.le_refl, Nat.lt_irrefl, l_0, l_1, l_2, l_3, l_4, l_5, l_6, l_7, l_8, l_9, l_10, l_13, l_14, l_16, l_20, l_24, l_26, l_30, l_31, l_32, l_48, l_57, l_59, l_63, l_96, l_97, l_100, l_122, l_200, l_255, l_256, l_270, l_400, l_429, l_526, l_780, l_800, l_926, l_1726, l_12082]
    · unfold RE
      rw [nS_ne _ _ _ _ (by omega), t6]
      exact q3
  · rw [if_neg c1, if_neg c1]
    have hph1 : phr (gS g s) = g 5 - 1 := by unfold phr; rw [t5, if_neg c1]
    rcases gk_cases (g := g) (g 5 - 1) s with c2 | ⟨c2, c3⟩
    · rw [if_pos c2, if_pos c2]
      obtain ⟨e1, a1, q2⟩ := k_repl fu hf q1 m1 (s := s) (by omega) (by omega) (by omega) (by omega) (by omega) (by omega) (by rw [t5, hgk]; exact c2)
      rw [t5] at a1 q2
      obtain ⟨g6, g7, gh⟩ := gEP_at (gS g s) (g 5 - 1) s m1.2.1 m1.1.1.2.2.2.1
      have hx : asked (gWr (gS g s) (g 5 - 1)) = asked (gWr (gS g s) (g 5 - 1)) := rfl
      obtain ⟨e', a2, q3⟩ := k_b56 fu (s := s) (c := if asked (gWr (gS g s) (g 5 - 1)) = true then 2 else 1) q2 h6 (by rw [gh _ (by omega) (by omega)]; exact ts)
      refine ⟨e', ?_, ?_⟩
      · rw [g7, t7, Nat.add_sub_cancel_left, ← a2]
        by_cases c4 : asked (gWr (gS g s) (g 5 - 1)) = true
        · rw [if_pos c4] at a1 ⊢
          unfold J_X2_takeSymbol_b53
          simp (disch := first | omega | assumption) only [nq_neg, nq_fix, nq_sub1, nq_addN, nq_add, nq_mul, nq_sub, nq_ltN, nq_Nlt, nq_leN, nq_Nle, nq_lt, nq_le, nq_eq, nq_div, nq_pow, nq_tn, rd_W, wr_W, nS_eq, nS_ne, Option.bind_some, Option.bind_none, ↓reduceIte, Bool.false_eq_true, Nat.reduceEqDiff, Nat.reduceLT, Nat.reduceLeDiff, Nat.reduceAdd, Nat.reduceMul, Nat.reduceSub, Nat.reducePow, Nat.add_sub_cancel, Nat.zero_le, Nat.not_lt_zero, Nat.le_refl, Nat.lt_irrefl, l_0, l_1, l_2, l_3, l_4, l_5, l_6, l_7, l_8, l_9, l_10, l_13, l_14, l_16, l_20, l_24, l_26, l_30, l_31, l_32, l_48, l_57, l_59, l_63, l_96, l_97, l_100, l_122, l_200, l_255, l_256, l_270, l_400, l_429, l_526, l_780, l_800, l_926, l_1726, l_12082, a1]
        · rw [if_neg c4] at a1 ⊢
          unfold J_X2_takeSymbol_b53
          simp (disch := first | omega | assumption) only [nq_neg, nq_fix, nq_sub1, nq_addN, nq_add, nq_mul, nq_sub, nq_ltN, nq_Nlt, nq_leN, nq_Nle, nq_lt, nq_le, nq_eq, nq_div, nq_pow, nq_tn, rd_W, wr_W, nS_eq, nS_ne, Option.bind_some, Option.bind_none, ↓reduceIte, Bool.false_eq_true, Nat.reduceEqDiff, Nat.reduceLT, Nat.reduceLeDiff, Nat.reduceAdd, Nat.reduceMul, Nat.reduceSub, Nat.reducePow, Nat.add_sub_cancel, Nat.zero_le, Nat.not_lt_zero, Nat.le_refl, Nat.lt_irrefl, l_0, l_1, l_2, l_3, l_4, l_5, l_6, l_7, l_8, l_9, l_10, l_13, l_14, l_16, l_20, l_24, l_26, l_30, l_31, l_32, l_48, l_57, l_59, l_63, l_96, l_97, l_100, l_122, l_200, l_255, l_256, l_270, l_400, l_429, l_526, l_780, l_800, l_926, l_1726, l_12082, a1]
      · unfold RE
        rw [g6, t6]
        exact q3
    · rw [if_neg (show ¬ (gk g (g 5 - 1) s = 4294967295) by omega), if_neg (show ¬ (gk g (g 5 - 1) s = 4294967295) by omega)]
      have q2 := RQ_ph (v := gk g (g 5 - 1) s + 1) q1
      rw [hph _ (by omega), Nat.add_sub_cancel] at q2
      obtain ⟨e', a, q3⟩ := k_b56 fu (s := s) (c := 0) q2 h6 (by rw [nS_ne _ _ _ _ (by omega)]; exact ts)
      refine ⟨e', ?_, ?_⟩
      · rw [nS_ne _ _ _ _ (by omega), t7, Nat.sub_self, ← a]
        obtain ⟨p, l, le, nw, od, en, wr, wi, he, hr, hen, hww⟩ := id q1
        obtain ⟨⟨_, _, _, _, _, _⟩, wd1, ud1⟩ := id m1.1
        have a5 := k_longerBy fu hf p l le nw od (gS g s 0) (gS g s 1) (gS g s 4) (gP (gS g s)) (gL (gS g s)) hr wd1 ud1 (by omega) (by omega) (g 5 - 1) s (by omega) (by omega)
        rw [show kidS (gS g s 0) (gP (gS g s)) (gL (gS g s)) (g 5 - 1) s (gS g s 4) = gk g (g 5 - 1) s from hgk] at a5
        rw [he, hph1]
        unfold J_X2_takeSymbol_b35
        simp (disch := first | omega | assumption) only [e_d, e_policy, e_limit, e_phrase, e_encoded, e_encodedLength, e_written, e_widths, e_writtenLength, e_bits, e_clears, e_recentCodes, e_recentSymbols, e_recentBits, mkE, eN, nq_neg, nq_fix, nq_sub1, nq_addN, nq_add, nq_mul, nq_sub, nq_ltN, nq_Nlt, nq_leN, nq_Nle, nq_lt, nq_le, nq_eq, nq_div, nq_pow, nq_tn, rd_W, wr_W, nS_eq, nS_ne, Option.bind_some, Option.bind_none, ↓reduceIte, Bool.false_eq_true, Nat.reduceEqDiff, Nat.reduceLT, Nat.reduceLeDiff, Nat.reduceAdd, Nat.reduceMul, Nat.reduceSub, Nat.reducePow, Nat.add_sub_cancel, Nat.zero_le, Nat.not_lt_zero, Nat.le_refl, Nat.lt_irrefl, l_0, l_1, l_2, l_3, l_4, l_5, l_6, l_7, l_8, l_9, l_10, l_13, l_14, l_16, l_20, l_24, l_26, l_30, l_31, l_32, l_48, l_57, l_59, l_63, l_96, l_97, l_100, l_122, l_200, l_255, l_256, l_270, l_400, l_429, l_526, l_780, l_800, l_926, l_1726, l_12082, show ¬ (g 5 - 1 = 4294967295) by omega]
        simp (disch := first | omega | assumption) only [a5, nq_neg, nq_fix, nq_sub1, nq_addN, nq_add, nq_mul, nq_sub, nq_ltN, nq_Nlt, nq_leN, nq_Nle, nq_lt, nq_le, nq_eq, nq_div, nq_pow, nq_tn, rd_W, wr_W, nS_eq, nS_ne, Option.bind_some, Option.bind_none, ↓reduceIte, Bool.false_eq_true, Nat.reduceEqDiff, Nat.reduceLT, Nat.reduceLeDiff, Nat.reduceAdd, Nat.reduceMul, Nat.reduceSub, Nat.reducePow, Nat.add_sub_cancel, Nat.zero_le, Nat.not_lt_zero, Nat.le_refl, Nat.lt_irrefl, l_0, l_1, l_2, l_3, l_4, l_5, l_6, l_7, l_8, l_9, l_10, l_13, l_14, l_16, l_20, l_24, l_26, l_30, l_31, l_32, l_48, l_57, l_59, l_63, l_96, l_97, l_100, l_122, l_200, l_255, l_256, l_270, l_400, l_429, l_526, l_780, l_800, l_926, l_1726, l_12082]
      · unfold RE
        rw [nS_ne _ _ _ _ (by omega), t6]
        exact q3
