/-! numbers: a row's words as natural numbers -/
theorem l_0 : (0 : Int32) = nI 0 := rfl
theorem l_1 : (1 : Int32) = nI 1 := rfl
theorem l_2 : (2 : Int32) = nI 2 := rfl
theorem l_3 : (3 : Int32) = nI 3 := rfl
theorem l_4 : (4 : Int32) = nI 4 := rfl
theorem l_5 : (5 : Int32) = nI 5 := rfl
theorem l_6 : (6 : Int32) = nI 6 := rfl
theorem l_7 : (7 : Int32) = nI 7 := rfl
theorem l_8 : (8 : Int32) = nI 8 := rfl
theorem l_9 : (9 : Int32) = nI 9 := rfl
theorem l_10 : (10 : Int32) = nI 10 := rfl
theorem l_13 : (13 : Int32) = nI 13 := rfl
theorem l_14 : (14 : Int32) = nI 14 := rfl
theorem l_16 : (16 : Int32) = nI 16 := rfl
theorem l_20 : (20 : Int32) = nI 20 := rfl
theorem l_24 : (24 : Int32) = nI 24 := rfl
theorem l_26 : (26 : Int32) = nI 26 := rfl
theorem l_30 : (30 : Int32) = nI 30 := rfl
theorem l_31 : (31 : Int32) = nI 31 := rfl
theorem l_32 : (32 : Int32) = nI 32 := rfl
theorem l_48 : (48 : Int32) = nI 48 := rfl
theorem l_57 : (57 : Int32) = nI 57 := rfl
theorem l_59 : (59 : Int32) = nI 59 := rfl
theorem l_63 : (63 : Int32) = nI 63 := rfl
theorem l_96 : (96 : Int32) = nI 96 := rfl
theorem l_97 : (97 : Int32) = nI 97 := rfl
theorem l_100 : (100 : Int32) = nI 100 := rfl
theorem l_122 : (122 : Int32) = nI 122 := rfl
theorem l_200 : (200 : Int32) = nI 200 := rfl
theorem l_255 : (255 : Int32) = nI 255 := rfl
theorem l_256 : (256 : Int32) = nI 256 := rfl
theorem l_270 : (270 : Int32) = nI 270 := rfl
theorem l_400 : (400 : Int32) = nI 400 := rfl
theorem l_429 : (429 : Int32) = nI 429 := rfl
theorem l_526 : (526 : Int32) = nI 526 := rfl
theorem l_780 : (780 : Int32) = nI 780 := rfl
theorem l_800 : (800 : Int32) = nI 800 := rfl
theorem l_926 : (926 : Int32) = nI 926 := rfl
theorem l_1726 : (1726 : Int32) = nI 1726 := rfl
theorem l_12082 : (12082 : Int32) = nI 12082 := rfl
def nW (g : Nat → Nat) : Nat → Int32 := fun k => nI (g k)
def nS (g : Nat → Nat) (k v : Nat) : Nat → Nat := fun j => if j = k then v else g j
theorem nS_eq (g : Nat → Nat) (k v : Nat) : nS g k v k = v := if_pos rfl
theorem nS_ne (g : Nat → Nat) (k v j : Nat) (h : j ≠ k) : nS g k v j = g j := if_neg h
theorem nq_toNat (a : Nat) : (nI a).toUInt32.toNat = a % 4294967296 := by
  show (UInt32.ofNat a).toNat = _
  exact UInt32.toNat_ofNat'
theorem nq_add (a b : Nat) : nI a + nI b = nI (a + b) := by
  show Int32.ofNat a + Int32.ofNat b = Int32.ofNat (a + b)
  rw [Int32.ofNat_add]
theorem nq_mul (a b : Nat) : nI a * nI b = nI (a * b) := by
  show Int32.ofNat a * Int32.ofNat b = Int32.ofNat (a * b)
  rw [Int32.ofNat_mul]
theorem nq_sub (a b : Nat) (h : b ≤ a) : nI a - nI b = nI (a - b) := by
  have h1 : nI a = nI (a - b) + nI b := by rw [nq_add, Nat.sub_add_cancel h]
  rw [h1, Int32.add_sub_cancel]
theorem nq_neg : -nI 1 = nI 4294967295 := by decide
theorem nq_addN (a : Nat) (h : 1 ≤ a) : nI a + nI 4294967295 = nI (a - 1) := by
  have h1 : nI a = nI (a - 1) + nI 1 := by rw [nq_add, Nat.sub_add_cancel h]
  rw [h1, Int32.add_assoc]
  have h2 : nI 1 + nI 4294967295 = 0 := by decide
  rw [h2, Int32.add_zero]
theorem nq_sub1 : nI 0 - nI 1 = nI 4294967295 := by decide
theorem nq_toInt (a : Nat) (h : a < 2147483648) : (nI a).toInt = a := by
  show (Int32.ofNat a).toInt = a
  rw [Int32.toInt_ofNat_of_lt (by exact h)]
theorem nq_tn (a : Nat) (h : a < 2147483648) : (nI a).toNatClampNeg = a := by
  show (nI a).toInt.toNat = a
  rw [nq_toInt a h]
  rfl
theorem nq_lt (a b : Nat) (ha : a < 2147483648) (hb : b < 2147483648) : (nI a < nI b) = (a < b) := by
  rw [Int32.lt_iff_toInt_lt, nq_toInt a ha, nq_toInt b hb]
  exact propext ⟨fun h => by omega, fun h => by omega⟩
theorem nq_le (a b : Nat) (ha : a < 2147483648) (hb : b < 2147483648) : (nI a ≤ nI b) = (a ≤ b) := by
  rw [Int32.le_iff_toInt_le, nq_toInt a ha, nq_toInt b hb]
  exact propext ⟨fun h => by omega, fun h => by omega⟩
theorem nq_inj (a b : Nat) (ha : a < 4294967296) (hb : b < 4294967296) (h : nI a = nI b) : a = b := by
  have h1 := congrArg (fun z : Int32 => z.toUInt32.toNat) h
  simp only [nq_toNat] at h1
  omega
theorem nq_eq (a b : Nat) (ha : a < 4294967296) (hb : b < 4294967296) : (nI a = nI b) = (a = b) :=
  propext ⟨nq_inj a b ha hb, fun h => by rw [h]⟩
theorem nq_div (a b : Nat) (ha : a < 2147483648) (hb : b < 2147483648) : nI a / nI b = nI (a / b) := by
  apply Int32.toInt_inj.mp
  have h1 : a / b < 2147483648 := Nat.lt_of_le_of_lt (Nat.div_le_self a b) ha
  rw [Int32.toInt_div_of_ne_left, nq_toInt a ha, nq_toInt b hb, nq_toInt _ h1]
  · exact Int.ofNat_tdiv a b
  · intro h2
    have h3 := congrArg Int32.toInt h2
    rw [nq_toInt a ha] at h3
    have h4 : (Int32.minValue).toInt = -2147483648 := by decide
    omega
theorem nq_pow (k : Nat) (h : k < 31) : nI 1 <<< (nI k &&& nI 31) = nI (2 ^ k) := by
  have h1 : ∀ k, k < 31 → nI 1 <<< (nI k &&& nI 31) = nI (2 ^ k) := by decide
  exact h1 k h
theorem rd_W (n : Nat) (g : Nat → Nat) (i : Nat) (hi : i < n) (hn : i < 2147483648) : j_rd n (nW g) (nI i) = some (nI (g i)) := by
  unfold j_rd
  rw [if_neg, nq_tn i hn]
  · rfl
  · rw [nq_tn i hn, l_0, nq_lt i 0 hn (by omega)]
    omega
theorem wr_W (n : Nat) (g : Nat → Nat) (i v : Nat) (hi : i < n) (hn : i < 2147483648) : j_wr n (nW g) (nI i) (nI v) = some (nW (nS g i v)) := by
  unfold j_wr
  rw [if_neg, nq_tn i hn]
  · refine congrArg some (funext fun j => ?_)
    show (if j = i then nI v else nI (g j)) = nI (if j = i then v else g j)
    split <;> rfl
  · rw [nq_tn i hn, l_0, nq_lt i 0 hn (by omega)]
    omega
theorem nq_NI : (nI 4294967295).toInt = -1 := by decide
theorem nq_ltN (a : Nat) (h : a < 2147483648) : (nI a < nI 4294967295) = False := by
  rw [Int32.lt_iff_toInt_lt, nq_toInt a h, nq_NI]
  exact propext ⟨fun h => by omega, fun h => h.elim⟩
theorem nq_Nlt (a : Nat) (h : a < 2147483648) : (nI 4294967295 < nI a) = True := by
  rw [Int32.lt_iff_toInt_lt, nq_toInt a h, nq_NI]
  exact propext ⟨fun _ => trivial, fun _ => by omega⟩
theorem nq_leN (a : Nat) (h : a < 2147483648) : (nI a ≤ nI 4294967295) = False := by
  rw [Int32.le_iff_toInt_le, nq_toInt a h, nq_NI]
  exact propext ⟨fun h => by omega, fun h => h.elim⟩
theorem nq_Nle (a : Nat) (h : a < 2147483648) : (nI 4294967295 ≤ nI a) = True := by
  rw [Int32.le_iff_toInt_le, nq_toInt a h, nq_NI]
  exact propext ⟨fun _ => trivial, fun _ => by omega⟩
theorem nq_fix (a : Nat) (h : 1 ≤ a) : nI (a + 4294967295) = nI (a - 1) := by
  rw [← nq_add, nq_addN a h]
/-! phrases: the symbols of a code, by the codes' rows -/
def phF (z : Nat) (P L : Nat → Nat) : Nat → Nat → List Nat
| 0, _ => []
| n + 1, c => if c < z then [c] else if c = z then [] else phF z P L n (P c) ++ [L c]
def ph (z : Nat) (P L : Nat → Nat) (c : Nat) : List Nat := phF z P L (c + 1) c
def WD (z n : Nat) (P L : Nat → Nat) : Prop := ∀ k, z < k → k < n → P k < k ∧ P k ≠ z ∧ L k < z
theorem phF_eq {z n : Nat} {P L : Nat → Nat} (h : WD z n P L) : ∀ f c, c < n → c < f → phF z P L f c = ph z P L c := by
  have H : ∀ f e c, c < n → c < f → c < e → phF z P L f c = phF z P L e c := by
    intro f
    induction f with
    | zero => intro e c _ h2; omega
    | succ f ih =>
      intro e c h1 h2 h3
      cases e with
      | zero => omega
      | succ e =>
        show (if c < z then [c] else if c = z then [] else phF z P L f (P c) ++ [L c]) = (if c < z then [c] else if c = z then [] else phF z P L e (P c) ++ [L c])
        by_cases h4 : c < z
        · rw [if_pos h4, if_pos h4]
        · by_cases h5 : c = z
          · rw [if_neg h4, if_pos h5, if_neg h4, if_pos h5]
          · have h6 := h c (by omega) h1
            rw [if_neg h4, if_neg h5, if_neg h4, if_neg h5, ih e (P c) (by omega) (by omega) (by omega)]
  intro f c h1 h2
  exact H f (c + 1) c h1 h2 (by omega)
theorem ph_lt {z : Nat} {P L : Nat → Nat} {c : Nat} (h : c < z) : ph z P L c = [c] := by
  show (if c < z then [c] else _) = _
  rw [if_pos h]
theorem ph_z {z : Nat} {P L : Nat → Nat} : ph z P L z = [] := by
  show (if z < z then [z] else if z = z then [] else _) = _
  rw [if_neg (Nat.lt_irrefl z), if_pos rfl]
theorem ph_gt {z n : Nat} {P L : Nat → Nat} (h : WD z n P L) {c : Nat} (h1 : z < c) (h2 : c < n) : ph z P L c = ph z P L (P c) ++ [L c] := by
  show (if c < z then [c] else if c = z then [] else phF z P L c (P c) ++ [L c]) = _
  have h3 := h c h1 h2
  rw [if_neg (by omega), if_neg (by omega), phF_eq h c (P c) (by omega) h3.1]
theorem ph_congr {z n : Nat} {P L P' L' : Nat → Nat} (h : WD z n P L) (hP : ∀ k, z < k → k < n → P' k = P k) (hL : ∀ k, z < k → k < n → L' k = L k) :
    ∀ c, c < n → ph z P' L' c = ph z P L c := by
  have h' : WD z n P' L' := by
    intro k h1 h2
    rw [hP k h1 h2, hL k h1 h2]
    exact h k h1 h2
  have H : ∀ m c, c < m → c < n → ph z P' L' c = ph z P L c := by
    intro m
    induction m with
    | zero => intro c h1; omega
    | succ m ih =>
      intro c h1 h2
      rcases Nat.lt_trichotomy c z with h3 | h3 | h3
      · rw [ph_lt h3, ph_lt h3]
      · subst h3
        rw [ph_z, ph_z]
      · have h4 := h c h3 h2
        rw [ph_gt h h3 h2, ph_gt h' h3 h2, hP c h3 h2, hL c h3 h2, ih (P c) (by omega) (by omega)]
  intro c h1
  exact H (c + 1) c (by omega) h1
theorem ph_le {z n : Nat} {P L : Nat → Nat} (h : WD z n P L) : ∀ c, c < n → (ph z P L c).length ≤ c + 1 := by
  have H : ∀ m c, c < m → c < n → (ph z P L c).length ≤ c + 1 := by
    intro m
    induction m with
    | zero => intro c h1; omega
    | succ m ih =>
      intro c h1 h2
      rcases Nat.lt_trichotomy c z with h3 | h3 | h3
      · rw [ph_lt h3]; simp
      · subst h3
        rw [ph_z]; simp
      · have h4 := h c h3 h2
        have h5 := ih (P c) (by omega) (by omega)
        rw [ph_gt h h3 h2, List.length_append]
        simp only [List.length_cons, List.length_nil]
        omega
  intro c h1
  exact H (c + 1) c (by omega) h1
theorem ph_pos {z n : Nat} {P L : Nat → Nat} (h : WD z n P L) {c : Nat} (h1 : c < n) (h2 : c ≠ z) : 1 ≤ (ph z P L c).length := by
  rcases Nat.lt_trichotomy c z with h3 | h3 | h3
  · rw [ph_lt h3]; simp
  · exact absurd h3 h2
  · rw [ph_gt h h3 h1, List.length_append]
    simp
theorem ph_sym {z n : Nat} {P L : Nat → Nat} (h : WD z n P L) : ∀ c, c < n → ∀ s ∈ ph z P L c, s < z := by
  have H : ∀ m c, c < m → c < n → ∀ s ∈ ph z P L c, s < z := by
    intro m
    induction m with
    | zero => intro c h1; omega
    | succ m ih =>
      intro c h1 h2 s hs
      rcases Nat.lt_trichotomy c z with h3 | h3 | h3
      · rw [ph_lt h3] at hs
        simp only [List.mem_singleton] at hs
        omega
      · subst h3
        rw [ph_z] at hs
        cases hs
      · have h4 := h c h3 h2
        rw [ph_gt h h3 h2, List.mem_append] at hs
        rcases hs with hs | hs
        · exact ih (P c) (by omega) (by omega) s hs
        · simp only [List.mem_singleton] at hs
          omega
  intro c h1
  exact H (c + 1) c (by omega) h1
/-- the children of a code: the newest below n, and how many -/
def kidN (z : Nat) (P : Nat → Nat) (c : Nat) : Nat → Nat
| 0 => 4294967295
| n + 1 => if z < n ∧ P n = c then n else kidN z P c n
def kidC (z : Nat) (P : Nat → Nat) (c : Nat) : Nat → Nat
| 0 => 0
| n + 1 => if z < n ∧ P n = c then kidC z P c n + 1 else kidC z P c n
/-- the code of a phrase and one symbol more, below n -/
def kidS (z : Nat) (P L : Nat → Nat) (c s : Nat) : Nat → Nat
| 0 => 4294967295
| n + 1 => if z < n ∧ P n = c ∧ L n = s then n else kidS z P L c s n
def UD (z n : Nat) (P L : Nat → Nat) : Prop := ∀ j k, z < j → j < k → k < n → ¬ (P j = P k ∧ L j = L k)
theorem kidN_cases (z : Nat) (P : Nat → Nat) (c n : Nat) :
    (kidN z P c n = 4294967295 ∧ ∀ k, z < k → k < n → P k ≠ c) ∨ (z < kidN z P c n ∧ kidN z P c n < n ∧ P (kidN z P c n) = c ∧ ∀ k, kidN z P c n < k → k < n → P k ≠ c) := by
  induction n with
  | zero => exact .inl ⟨rfl, fun k _ h => by omega⟩
  | succ n ih =>
    by_cases h : z < n ∧ P n = c
    · have h1 : kidN z P c (n + 1) = n := if_pos h
      rw [h1]
      exact .inr ⟨h.1, Nat.lt_succ_self n, h.2, fun k h2 h3 => by omega⟩
    · have h1 : kidN z P c (n + 1) = kidN z P c n := if_neg h
      rw [h1]
      rcases ih with ⟨h2, h3⟩ | ⟨h2, h3, h4, h5⟩
      · refine .inl ⟨h2, fun k h6 h7 h8 => ?_⟩
        rcases Nat.lt_or_ge k n with h9 | h9
        · exact h3 k h6 h9 h8
        · have : k = n := by omega
          exact h ⟨by omega, by rw [← this]; exact h8⟩
      · refine .inr ⟨h2, by omega, h4, fun k h6 h7 h8 => ?_⟩
        rcases Nat.lt_or_ge k n with h9 | h9
        · exact h5 k h6 h9 h8
        · have : k = n := by omega
          exact h ⟨by omega, by rw [← this]; exact h8⟩
theorem kidS_cases (z : Nat) (P L : Nat → Nat) (c s n : Nat) :
    (kidS z P L c s n = 4294967295 ∧ ∀ k, z < k → k < n → ¬ (P k = c ∧ L k = s)) ∨ (z < kidS z P L c s n ∧ kidS z P L c s n < n ∧ P (kidS z P L c s n) = c ∧ L (kidS z P L c s n) = s) := by
  induction n with
  | zero => exact .inl ⟨rfl, fun k _ h => by omega⟩
  | succ n ih =>
    by_cases h : z < n ∧ P n = c ∧ L n = s
    · have h1 : kidS z P L c s (n + 1) = n := if_pos h
      rw [h1]
      exact .inr ⟨h.1, Nat.lt_succ_self n, h.2.1, h.2.2⟩
    · have h1 : kidS z P L c s (n + 1) = kidS z P L c s n := if_neg h
      rw [h1]
      rcases ih with ⟨h2, h3⟩ | ⟨h2, h3, h4, h5⟩
      · refine .inl ⟨h2, fun k h6 h7 h8 => ?_⟩
        rcases Nat.lt_or_ge k n with h9 | h9
        · exact h3 k h6 h9 h8
        · have : k = n := by omega
          exact h ⟨by omega, by rw [← this]; exact h8⟩
      · exact .inr ⟨h2, by omega, h4, h5⟩
/-- with different pairs there is one such code at most -/
theorem kidS_of {z n : Nat} {P L : Nat → Nat} (u : UD z n P L) {c s k : Nat} (h1 : z < k) (h2 : k < n) (h3 : P k = c) (h4 : L k = s) : kidS z P L c s n = k := by
  rcases kidS_cases z P L c s n with ⟨_, h⟩ | ⟨h5, h6, h7, h8⟩
  · exact absurd ⟨h3, h4⟩ (h k h1 h2)
  · rcases Nat.lt_trichotomy (kidS z P L c s n) k with h9 | h9 | h9
    · exact absurd ⟨by rw [h7, h3], by rw [h8, h4]⟩ (u _ _ h5 h9 h2)
    · exact h9
    · exact absurd ⟨by rw [h7, h3], by rw [h8, h4]⟩ (u _ _ h1 h9 h6)
/-! the model's looks at its row -/
def bw (m : Nat) : Nat := if m ≤ 2 then 1 else if m ≤ 4 then 2 else if m ≤ 8 then 3 else if m ≤ 16 then 4 else if m ≤ 32 then 5 else if m ≤ 64 then 6 else if m ≤ 128 then 7 else 8
theorem bw_rng (m : Nat) : 1 ≤ bw m ∧ bw m ≤ 8 := by
  unfold bw
  repeat' split
  all_goals omega
theorem bw_up (m : Nat) (h : m ≤ 256) : m ≤ 2 ^ bw m := by
  unfold bw
  repeat' split
  all_goals omega
theorem bw_lo (m b : Nat) (h1 : 1 ≤ b) (h2 : b < bw m) : 2 ^ b < m := by
  unfold bw at h2
  have h3 : b = 1 ∨ b = 2 ∨ b = 3 ∨ b = 4 ∨ b = 5 ∨ b = 6 ∨ b = 7 := by
    revert h2
    repeat' split
    all_goals omega
  rcases h3 with h | h | h | h | h | h | h <;> subst h <;> revert h2 <;> repeat' split
  all_goals omega
theorem pow_le8 (b : Nat) (h : b ≤ 8) : 2 ^ b ≤ 256 := Nat.pow_le_pow_right (by omega) h
theorem m_bits_b (fu m : Nat) (hm : m ≤ 256) : ∀ n b, 1 ≤ b → b ≤ bw m → bw m < n + b → J_X8_bitsFor_b2 fu n (nI m) (nI b) = some (nI (bw m)) := by
  intro n
  induction n with
  | zero => intro b _ h1 h2; omega
  | succ n ih =>
    intro b h0 h1 h2
    have h3 := bw_rng m
    have h4 := pow_le8 b (by omega)
    unfold J_X8_bitsFor_b2
    simp (disch := first | omega | assumption) only [nq_neg, nq_fix, nq_sub1, nq_addN, nq_add, nq_mul, nq_sub, nq_ltN, nq_Nlt, nq_leN, nq_Nle, nq_lt, nq_le, nq_eq, nq_div, nq_pow, nq_tn, rd_W, wr_W, nS_eq, nS_ne, Option.bind_some, Option.bind_none, ↓reduceIte, Bool.false_eq_true, Nat.reduceEqDiff, Nat.reduceLT, Nat.reduceLeDiff, Nat.reduceAdd, Nat.reduceMul, Nat.reduceSub, Nat.reducePow, Nat.add_sub_cancel, Nat.zero_le, Nat.not_lt_zero, Nat.le_refl, Nat.lt_irrefl, l_0, l_1, l_2, l_3, l_4, l_5, l_6, l_7, l_8, l_9, l_10, l_13, l_14, l_16, l_20, l_24, l_26, l_30, l_31, l_32, l_48, l_57, l_59, l_63, l_96, l_97, l_100, l_122, l_200, l_255, l_256, l_270, l_400, l_429, l_526, l_780, l_800, l_926, l_1726, l_12082]
    by_cases h5 : b = bw m
    · subst h5
      have := bw_up m hm
      rw [if_pos (by omega)]
    · have := bw_lo m b h0 (by omega)
      rw [if_neg (by omega)]
      exact ih (b + 1) (by omega) (by omega) (by omega)
theorem m_bitsFor (fu m : Nat) (hm : m ≤ 256) (hf : 9 ≤ fu) : J_X8_bitsFor fu (nI m) = some (nI (bw m)) := by
  have h3 := bw_rng m
  exact m_bits_b fu m hm fu 1 (by omega) (by omega) (by omega)
theorem k_width_b (fu m : Nat) (hm : m ≤ 256) : ∀ n b, 1 ≤ b → b ≤ bw m → bw m < n + b → J_X7_widthFor_b2 fu n (nI m) (nI b) = some (nI (bw m)) := by
  intro n
  induction n with
  | zero => intro b _ h1 h2; omega
  | succ n ih =>
    intro b h0 h1 h2
    have h3 := bw_rng m
    have h4 := pow_le8 b (by omega)
    unfold J_X7_widthFor_b2
    simp (disch := first | omega | assumption) only [nq_neg, nq_fix, nq_sub1, nq_addN, nq_add, nq_mul, nq_sub, nq_ltN, nq_Nlt, nq_leN, nq_Nle, nq_lt, nq_le, nq_eq, nq_div, nq_pow, nq_tn, rd_W, wr_W, nS_eq, nS_ne, Option.bind_some, Option.bind_none, ↓reduceIte, Bool.false_eq_true, Nat.reduceEqDiff, Nat.reduceLT, Nat.reduceLeDiff, Nat.reduceAdd, Nat.reduceMul, Nat.reduceSub, Nat.reducePow, Nat.add_sub_cancel, Nat.zero_le, Nat.not_lt_zero, Nat.le_refl, Nat.lt_irrefl, l_0, l_1, l_2, l_3, l_4, l_5, l_6, l_7, l_8, l_9, l_10, l_13, l_14, l_16, l_20, l_24, l_26, l_30, l_31, l_32, l_48, l_57, l_59, l_63, l_96, l_97, l_100, l_122, l_200, l_255, l_256, l_270, l_400, l_429, l_526, l_780, l_800, l_926, l_1726, l_12082]
    by_cases h5 : b = bw m
    · subst h5
      have := bw_up m hm
      simp only [show ¬ (30 ≤ bw m) by omega, show m ≤ 2 ^ bw m by omega, if_true, if_false]
    · have := bw_lo m b h0 (by omega)
      simp only [show ¬ (30 ≤ b) by omega, show ¬ (m ≤ 2 ^ b) by omega, if_false]
      exact ih (b + 1) (by omega) (by omega) (by omega)
theorem k_widthFor (fu m : Nat) (hm : m ≤ 256) (hf : 9 ≤ fu) : J_X7_widthFor fu (nI m) = some (nI (bw m)) := by
  have h3 := bw_rng m
  exact k_width_b fu m hm fu 1 (by omega) (by omega) (by omega)
def gP (g : Nat → Nat) : Nat → Nat := fun k => g (14 + k)
def gL (g : Nat → Nat) : Nat → Nat := fun k => g (270 + k)
def DI (g : Nat → Nat) : Prop := (2 ≤ g 0 ∧ g 0 ≤ 26 ∧ 3 ≤ g 1 ∧ g 1 ≤ 8 ∧ g 0 + 1 ≤ g 4 ∧ g 4 ≤ 256) ∧ WD (g 0) (g 4) (gP g) (gL g) ∧ UD (g 0) (g 4) (gP g) (gL g)
def gph (g : Nat → Nat) (c : Nat) : List Nat := ph (g 0) (gP g) (gL g) c
theorem m_in (a lo hi : Nat) (h1 : a < 2147483648) (h2 : lo < 2147483648) (h3 : hi < 2147483648) : J_X8_in (nI a) (nI lo) (nI hi) = some (nI (if lo ≤ a ∧ a ≤ hi then 1 else 0)) := by
  unfold J_X8_in
  simp (disch := first | omega | assumption) only [nq_neg, nq_fix, nq_sub1, nq_addN, nq_add, nq_mul, nq_sub, nq_ltN, nq_Nlt, nq_leN, nq_Nle, nq_lt, nq_le, nq_eq, nq_div, nq_pow, nq_tn, rd_W, wr_W, nS_eq, nS_ne, Option.bind_some, Option.bind_none, ↓reduceIte, Bool.false_eq_true, Nat.reduceEqDiff, Nat.reduceLT, Nat.reduceLeDiff, Nat.reduceAdd, Nat.reduceMul, Nat.reduceSub, Nat.reducePow, Nat.add_sub_cancel, Nat.zero_le, Nat.not_lt_zero, Nat.le_refl, Nat.lt_irrefl, l_0, l_1, l_2, l_3, l_4, l_5, l_6, l_7, l_8, l_9, l_10, l_13, l_14, l_16, l_20, l_24, l_26, l_30, l_31, l_32, l_48, l_57, l_59, l_63, l_96, l_97, l_100, l_122, l_200, l_255, l_256, l_270, l_400, l_429, l_526, l_780, l_800, l_926, l_1726, l_12082]
  repeat' split
  all_goals first | rfl | omega
theorem m_inNeg (a : Int32) (hi : Int32) (h1 : a < 0) : J_X8_in a (nI 0) hi = some (nI 0) := by
  unfold J_X8_in
  rw [← l_0, if_pos h1]
theorem m_isFirst (g : Nat → Nat) (h0 : g 0 ≤ 26) (c : Nat) (hc : c < 2147483648) : J_X8_isFirst (nW g) (nI c) = some (nI (if c ≤ g 0 then 1 else 0)) := by
  unfold J_X8_isFirst J_X8_clear
  simp (disch := first | omega | assumption) only [nq_neg, nq_fix, nq_sub1, nq_addN, nq_add, nq_mul, nq_sub, nq_ltN, nq_Nlt, nq_leN, nq_Nle, nq_lt, nq_le, nq_eq, nq_div, nq_pow, nq_tn, rd_W, wr_W, nS_eq, nS_ne, Option.bind_some, Option.bind_none, ↓reduceIte, Bool.false_eq_true, Nat.reduceEqDiff, Nat.reduceLT, Nat.reduceLeDiff, Nat.reduceAdd, Nat.reduceMul, Nat.reduceSub, Nat.reducePow, Nat.add_sub_cancel, Nat.zero_le, Nat.not_lt_zero, Nat.le_refl, Nat.lt_irrefl, l_0, l_1, l_2, l_3, l_4, l_5, l_6, l_7, l_8, l_9, l_10, l_13, l_14, l_16, l_20, l_24, l_26, l_30, l_31, l_32, l_48, l_57, l_59, l_63, l_96, l_97, l_100, l_122, l_200, l_255, l_256, l_270, l_400, l_429, l_526, l_780, l_800, l_926, l_1726, l_12082]
  repeat' split
  all_goals first | rfl | omega
theorem m_len_b (fu : Nat) (g : Nat → Nat) (h : DI g) : ∀ n a c, c < g 4 → c ≠ g 0 → c < n → J_X8_lengthOf_b14 fu (nW g) n (nI (a + 1)) (nI c) = some (nI (a + (gph g c).length)) := by
  intro n
  induction n with
  | zero => intro a c _ _ h1; omega
  | succ n ih =>
    intro a c h1 h2 h3
    obtain ⟨⟨_, h0, _, _, _, h4⟩, wd, ud⟩ := h
    unfold J_X8_lengthOf_b14
    rw [m_isFirst g h0 c (by omega)]
    by_cases h5 : c < g 0
    · rw [show gph g c = [c] from ph_lt h5]
      simp (disch := first | omega | assumption) only [nq_neg, nq_fix, nq_sub1, nq_addN, nq_add, nq_mul, nq_sub, nq_ltN, nq_Nlt, nq_leN, nq_Nle, nq_lt, nq_le, nq_eq, nq_div, nq_pow, nq_tn, rd_W, wr_W, nS_eq, nS_ne, Option.bind_some, Option.bind_none, ↓reduceIte, Bool.false_eq_true, Nat.reduceEqDiff, Nat.reduceLT, Nat.reduceLeDiff, Nat.reduceAdd, Nat.reduceMul, Nat.reduceSub, Nat.reducePow, Nat.add_sub_cancel, Nat.zero_le, Nat.not_lt_zero, Nat.le_refl, Nat.lt_irrefl, l_0, l_1, l_2, l_3, l_4, l_5, l_6, l_7, l_8, l_9, l_10, l_13, l_14, l_16, l_20, l_24, l_26, l_30, l_31, l_32, l_48, l_57, l_59, l_63, l_96, l_97, l_100, l_122, l_200, l_255, l_256, l_270, l_400, l_429, l_526, l_780, l_800, l_926, l_1726, l_12082, show c ≤ g 0 by omega, if_true, show ¬ (1 = 0) by omega, if_false]
      rfl
    · have h6 := wd c (by omega) h1
      have h7 := ih (a + 1) (gP g c) (by omega) h6.2.1 (by omega)
      rw [show gph g c = gph g (gP g c) ++ [gL g c] from ph_gt wd (by omega) h1]
      simp (disch := first | omega | assumption) only [nq_neg, nq_fix, nq_sub1, nq_addN, nq_add, nq_mul, nq_sub, nq_ltN, nq_Nlt, nq_leN, nq_Nle, nq_lt, nq_le, nq_eq, nq_div, nq_pow, nq_tn, rd_W, wr_W, nS_eq, nS_ne, Option.bind_some, Option.bind_none, ↓reduceIte, Bool.false_eq_true, Nat.reduceEqDiff, Nat.reduceLT, Nat.reduceLeDiff, Nat.reduceAdd, Nat.reduceMul, Nat.reduceSub, Nat.reducePow, Nat.add_sub_cancel, Nat.zero_le, Nat.not_lt_zero, Nat.le_refl, Nat.lt_irrefl, l_0, l_1, l_2, l_3, l_4, l_5, l_6, l_7, l_8, l_9, l_10, l_13, l_14, l_16, l_20, l_24, l_26, l_30, l_31, l_32, l_48, l_57, l_59, l_63, l_96, l_97, l_100, l_122, l_200, l_255, l_256, l_270, l_400, l_429, l_526, l_780, l_800, l_926, l_1726, l_12082, show ¬ (c ≤ g 0) by omega, if_false, if_true]
      rw [List.length_append]
      simp only [List.length_cons, List.length_nil]
      rw [show a + ((gph g (gP g c)).length + (0 + 1)) = a + 1 + (gph g (gP g c)).length by omega]
      exact h7
theorem m_lengthOf (fu : Nat) (g : Nat → Nat) (h : DI g) (hf : 256 ≤ fu) (c : Nat) (hc : c < g 4) : J_X8_lengthOf fu (nW g) (nI c) = some (nI (gph g c).length) := by
  obtain ⟨⟨_, h0, _, _, _, h4⟩, wd, ud⟩ := id h
  unfold J_X8_lengthOf J_X8_clear
  simp (disch := first | omega | assumption) only [nq_neg, nq_fix, nq_sub1, nq_addN, nq_add, nq_mul, nq_sub, nq_ltN, nq_Nlt, nq_leN, nq_Nle, nq_lt, nq_le, nq_eq, nq_div, nq_pow, nq_tn, rd_W, wr_W, nS_eq, nS_ne, Option.bind_some, Option.bind_none, ↓reduceIte, Bool.false_eq_true, Nat.reduceEqDiff, Nat.reduceLT, Nat.reduceLeDiff, Nat.reduceAdd, Nat.reduceMul, Nat.reduceSub, Nat.reducePow, Nat.add_sub_cancel, Nat.zero_le, Nat.not_lt_zero, Nat.le_refl, Nat.lt_irrefl, l_0, l_1, l_2, l_3, l_4, l_5, l_6, l_7, l_8, l_9, l_10, l_13, l_14, l_16, l_20, l_24, l_26, l_30, l_31, l_32, l_48, l_57, l_59, l_63, l_96, l_97, l_100, l_122, l_200, l_255, l_256, l_270, l_400, l_429, l_526, l_780, l_800, l_926, l_1726, l_12082]
  by_cases h5 : c = g 0
  · rw [if_pos h5]
    subst h5
    rw [show gph g (g 0) = [] from ph_z]
    rfl
  · rw [if_neg h5]
    have := m_len_b fu g h fu 0 c hc h5 (by omega)
    simp only [Nat.zero_add] at this
    exact this
/-! the model's encoder, as what becomes of the numbers -/
def DE (g' g : Nat → Nat) : Prop := g' 0 = g 0 ∧ g' 1 = g 1 ∧ g' 4 = g 4 ∧ ∀ k, 14 ≤ k → k < 526 → g' k = g k
theorem gph_of {g' g : Nat → Nat} (h : DI g) (e : DE g' g) : DI g' ∧ ∀ c, c < g 4 → gph g' c = gph g c := by
  obtain ⟨⟨h1, h2, h3, h4, h5, h6⟩, wd, ud⟩ := h
  obtain ⟨e0, e1, e4, e⟩ := e
  have eP : ∀ k, g 0 < k → k < g 4 → gP g' k = gP g k := fun k _ hk => e (14 + k) (by omega) (by omega)
  have eL : ∀ k, g 0 < k → k < g 4 → gL g' k = gL g k := fun k _ hk => e (270 + k) (by omega) (by omega)
  refine ⟨⟨⟨by omega, by omega, by omega, by omega, by omega, by omega⟩, ?_, ?_⟩, fun c hc => ?_⟩
  · intro k hk1 hk2
    rw [e0] at hk1 ⊢
    rw [e4] at hk2
    rw [eP k hk1 hk2, eL k hk1 hk2]
    exact wd k hk1 hk2
  · intro j k hj hk hn
    rw [e0] at hj
    rw [e4] at hn
    rw [eP k (by omega) hn, eL k (by omega) hn, eP j hj (by omega), eL j hj (by omega)]
    exact ud j k hj hk hn
  · unfold gph
    rw [e0]
    exact ph_congr wd eP eL c hc
def sm (f : Nat → Nat) (a : Nat) : Nat → Nat
| 0 => 0
| b + 1 => if a ≤ b then sm f a b + f b else 0
theorem sm_self (f : Nat → Nat) (a : Nat) : sm f a a = 0 := by
  cases a with
  | zero => rfl
  | succ a => exact if_neg (by omega)
theorem sm_succ (f : Nat → Nat) (a b : Nat) (h : a ≤ b) : sm f a (b + 1) = sm f a b + f b := if_pos h
theorem sm_le (f : Nat → Nat) (m a b : Nat) (h : ∀ k, a ≤ k → k < b → f k ≤ m) : sm f a b ≤ (b - a) * m := by
  induction b with
  | zero => exact Nat.zero_le _
  | succ b ih =>
    by_cases h1 : a ≤ b
    · rw [sm_succ f a b h1, show b + 1 - a = b - a + 1 by omega, Nat.succ_mul]
      exact Nat.add_le_add (ih fun k h2 h3 => h k h2 (by omega)) (h b h1 (by omega))
    · rw [show sm f a (b + 1) = 0 from if_neg h1]
      exact Nat.zero_le _
theorem sm_congr (f f' : Nat → Nat) (a b : Nat) (h : ∀ k, a ≤ k → k < b → f' k = f k) : sm f' a b = sm f a b := by
  induction b with
  | zero => rfl
  | succ b ih =>
    by_cases h1 : a ≤ b
    · rw [sm_succ f a b h1, sm_succ f' a b h1, ih fun k h2 h3 => h k h2 (by omega), h b h1 (by omega)]
    · rw [show sm f a (b + 1) = 0 from if_neg h1, show sm f' a (b + 1) = 0 from if_neg h1]
theorem sm_split (f : Nat → Nat) (a c b : Nat) (h1 : a ≤ c) (h2 : c ≤ b) : sm f a b = sm f a c + sm f c b := by
  induction b with
  | zero =>
    have : c = 0 := by omega
    subst this
    rfl
  | succ b ih =>
    by_cases h3 : c = b + 1
    · subst h3
      rw [sm_self]
      rfl
    · rw [sm_succ f a b (by omega), sm_succ f c b (by omega), ih (by omega)]
      omega
def gcd_ (g : Nat → Nat) (k : Nat) : Nat := g (926 + k) / 16
def gwd_ (g : Nat → Nat) (k : Nat) : Nat := g (926 + k) % 16
def gln (g : Nat → Nat) (k : Nat) : Nat := (gph g (gcd_ g k)).length
def MB (g : Nat → Nat) : Prop := DI g ∧ g 4 ≤ 2 ^ g 1 ∧ g 9 ≤ g 7 ∧ g 7 ≤ 800 ∧ (∀ i, i < g 7 → g (926 + i) < 4096) ∧ (∀ i, g 9 ≤ i → i < g 7 → gcd_ g i < g 4)
theorem m_codeAt (g : Nat → Nat) (k : Nat) (h1 : k < 800) (h2 : g (926 + k) < 4096) : J_X8_codeAt (nW g) (nI k) = some (nI (gcd_ g k)) := by
  unfold J_X8_codeAt
  simp (disch := first | omega | assumption) only [nq_neg, nq_fix, nq_sub1, nq_addN, nq_add, nq_mul, nq_sub, nq_ltN, nq_Nlt, nq_leN, nq_Nle, nq_lt, nq_le, nq_eq, nq_div, nq_pow, nq_tn, rd_W, wr_W, nS_eq, nS_ne, Option.bind_some, Option.bind_none, ↓reduceIte, Bool.false_eq_true, Nat.reduceEqDiff, Nat.reduceLT, Nat.reduceLeDiff, Nat.reduceAdd, Nat.reduceMul, Nat.reduceSub, Nat.reducePow, Nat.add_sub_cancel, Nat.zero_le, Nat.not_lt_zero, Nat.le_refl, Nat.lt_irrefl, l_0, l_1, l_2, l_3, l_4, l_5, l_6, l_7, l_8, l_9, l_10, l_13, l_14, l_16, l_20, l_24, l_26, l_30, l_31, l_32, l_48, l_57, l_59, l_63, l_96, l_97, l_100, l_122, l_200, l_255, l_256, l_270, l_400, l_429, l_526, l_780, l_800, l_926, l_1726, l_12082]
  rfl
theorem m_widthAt (g : Nat → Nat) (k : Nat) (h1 : k < 800) (h2 : g (926 + k) < 4096) : J_X8_widthAt (nW g) (nI k) = some (nI (gwd_ g k)) := by
  unfold J_X8_widthAt
  simp (disch := first | omega | assumption) only [nq_neg, nq_fix, nq_sub1, nq_addN, nq_add, nq_mul, nq_sub, nq_ltN, nq_Nlt, nq_leN, nq_Nle, nq_lt, nq_le, nq_eq, nq_div, nq_pow, nq_tn, rd_W, wr_W, nS_eq, nS_ne, Option.bind_some, Option.bind_none, ↓reduceIte, Bool.false_eq_true, Nat.reduceEqDiff, Nat.reduceLT, Nat.reduceLeDiff, Nat.reduceAdd, Nat.reduceMul, Nat.reduceSub, Nat.reducePow, Nat.add_sub_cancel, Nat.zero_le, Nat.not_lt_zero, Nat.le_refl, Nat.lt_irrefl, l_0, l_1, l_2, l_3, l_4, l_5, l_6, l_7, l_8, l_9, l_10, l_13, l_14, l_16, l_20, l_24, l_26, l_30, l_31, l_32, l_48, l_57, l_59, l_63, l_96, l_97, l_100, l_122, l_200, l_255, l_256, l_270, l_400, l_429, l_526, l_780, l_800, l_926, l_1726, l_12082]
  rw [show g (926 + k) - g (926 + k) / 16 * 16 = gwd_ g k by unfold gwd_; omega]
theorem m_ssum_b (fu : Nat) (hf : 256 ≤ fu) (g : Nat → Nat) (h : MB g) : ∀ n k, g 9 ≤ k → k ≤ g 7 → g 7 < n + k → J_X8_symbolsSince_b10 fu (nW g) n (nI (sm (gln g) (g 9) k)) (nI k) = some (nI (sm (gln g) (g 9) (g 7))) := by
  intro n
  obtain ⟨hd, hp, h97, h7, hc, hv⟩ := h
  induction n with
  | zero => intro k _ h1 h2; omega
  | succ n ih =>
    intro k h1 h2 h3
    unfold J_X8_symbolsSince_b10
    by_cases h4 : k = g 7
    · subst h4
      simp (disch := first | omega | assumption) only [nq_neg, nq_fix, nq_sub1, nq_addN, nq_add, nq_mul, nq_sub, nq_ltN, nq_Nlt, nq_leN, nq_Nle, nq_lt, nq_le, nq_eq, nq_div, nq_pow, nq_tn, rd_W, wr_W, nS_eq, nS_ne, Option.bind_some, Option.bind_none, ↓reduceIte, Bool.false_eq_true, Nat.reduceEqDiff, Nat.reduceLT, Nat.reduceLeDiff, Nat.reduceAdd, Nat.reduceMul, Nat.reduceSub, Nat.reducePow, Nat.add_sub_cancel, Nat.zero_le, Nat.not_lt_zero, Nat.le_refl, Nat.lt_irrefl, l_0, l_1, l_2, l_3, l_4, l_5, l_6, l_7, l_8, l_9, l_10, l_13, l_14, l_16, l_20, l_24, l_26, l_30, l_31, l_32, l_48, l_57, l_59, l_63, l_96, l_97, l_100, l_122, l_200, l_255, l_256, l_270, l_400, l_429, l_526, l_780, l_800, l_926, l_1726, l_12082, Nat.le_refl, if_true]
    · have h5 := hv k h1 (by omega)
      simp (disch := first | omega | assumption) only [nq_neg, nq_fix, nq_sub1, nq_addN, nq_add, nq_mul, nq_sub, nq_ltN, nq_Nlt, nq_leN, nq_Nle, nq_lt, nq_le, nq_eq, nq_div, nq_pow, nq_tn, rd_W, wr_W, nS_eq, nS_ne, Option.bind_some, Option.bind_none, ↓reduceIte, Bool.false_eq_true, Nat.reduceEqDiff, Nat.reduceLT, Nat.reduceLeDiff, Nat.reduceAdd, Nat.reduceMul, Nat.reduceSub, Nat.reducePow, Nat.add_sub_cancel, Nat.zero_le, Nat.not_lt_zero, Nat.le_refl, Nat.lt_irrefl, l_0, l_1, l_2, l_3, l_4, l_5, l_6, l_7, l_8, l_9, l_10, l_13, l_14, l_16, l_20, l_24, l_26, l_30, l_31, l_32, l_48, l_57, l_59, l_63, l_96, l_97, l_100, l_122, l_200, l_255, l_256, l_270, l_400, l_429, l_526, l_780, l_800, l_926, l_1726, l_12082, show ¬ (g 7 ≤ k) by omega, if_false, m_codeAt g k (by omega) (hc k (by omega)), m_lengthOf fu g hd hf _ h5]
      rw [show sm (gln g) (g 9) k + (gph g (gcd_ g k)).length = sm (gln g) (g 9) (k + 1) from (sm_succ _ _ _ h1).symm]
      exact ih (k + 1) (by omega) (by omega) (by omega)
theorem m_symbolsSince (fu : Nat) (hf : 1000 ≤ fu) (g : Nat → Nat) (h : MB g) : J_X8_symbolsSince fu (nW g) = some (nI (sm (gln g) (g 9) (g 7))) := by
  obtain ⟨hd, hp, h97, h7, hc, hv⟩ := id h
  unfold J_X8_symbolsSince
  simp (disch := first | omega | assumption) only [nq_neg, nq_fix, nq_sub1, nq_addN, nq_add, nq_mul, nq_sub, nq_ltN, nq_Nlt, nq_leN, nq_Nle, nq_lt, nq_le, nq_eq, nq_div, nq_pow, nq_tn, rd_W, wr_W, nS_eq, nS_ne, Option.bind_some, Option.bind_none, ↓reduceIte, Bool.false_eq_true, Nat.reduceEqDiff, Nat.reduceLT, Nat.reduceLeDiff, Nat.reduceAdd, Nat.reduceMul, Nat.reduceSub, Nat.reducePow, Nat.add_sub_cancel, Nat.zero_le, Nat.not_lt_zero, Nat.le_refl, Nat.lt_irrefl, l_0, l_1, l_2, l_3, l_4, l_5, l_6, l_7, l_8, l_9, l_10, l_13, l_14, l_16, l_20, l_24, l_26, l_30, l_31, l_32, l_48, l_57, l_59, l_63, l_96, l_97, l_100, l_122, l_200, l_255, l_256, l_270, l_400, l_429, l_526, l_780, l_800, l_926, l_1726, l_12082]
  have h1 := m_ssum_b fu (by omega) g h fu (g 9) (Nat.le_refl _) h97 (by omega)
  rw [sm_self] at h1
  exact h1
theorem m_bsum_b (fu : Nat) (g : Nat → Nat) (h7 : g 7 ≤ 800) (hc : ∀ i, i < g 7 → g (926 + i) < 4096) (a : Nat) : ∀ n k, a ≤ k → k ≤ g 7 → g 7 < n + k → J_X8_bitsFrom_b4 fu (nW g) n (nI (sm (gwd_ g) a k)) (nI k) = some (nI (sm (gwd_ g) a (g 7))) := by
  intro n
  induction n with
  | zero => intro k _ h1 h2; omega
  | succ n ih =>
    intro k h1 h2 h3
    unfold J_X8_bitsFrom_b4
    by_cases h4 : k = g 7
    · subst h4
      simp (disch := first | omega | assumption) only [nq_neg, nq_fix, nq_sub1, nq_addN, nq_add, nq_mul, nq_sub, nq_ltN, nq_Nlt, nq_leN, nq_Nle, nq_lt, nq_le, nq_eq, nq_div, nq_pow, nq_tn, rd_W, wr_W, nS_eq, nS_ne, Option.bind_some, Option.bind_none, ↓reduceIte, Bool.false_eq_true, Nat.reduceEqDiff, Nat.reduceLT, Nat.reduceLeDiff, Nat.reduceAdd, Nat.reduceMul, Nat.reduceSub, Nat.reducePow, Nat.add_sub_cancel, Nat.zero_le, Nat.not_lt_zero, Nat.le_refl, Nat.lt_irrefl, l_0, l_1, l_2, l_3, l_4, l_5, l_6, l_7, l_8, l_9, l_10, l_13, l_14, l_16, l_20, l_24, l_26, l_30, l_31, l_32, l_48, l_57, l_59, l_63, l_96, l_97, l_100, l_122, l_200, l_255, l_256, l_270, l_400, l_429, l_526, l_780, l_800, l_926, l_1726, l_12082, Nat.le_refl, if_true]
    · simp (disch := first | omega | assumption) only [nq_neg, nq_fix, nq_sub1, nq_addN, nq_add, nq_mul, nq_sub, nq_ltN, nq_Nlt, nq_leN, nq_Nle, nq_lt, nq_le, nq_eq, nq_div, nq_pow, nq_tn, rd_W, wr_W, nS_eq, nS_ne, Option.bind_some, Option.bind_none, ↓reduceIte, Bool.false_eq_true, Nat.reduceEqDiff, Nat.reduceLT, Nat.reduceLeDiff, Nat.reduceAdd, Nat.reduceMul, Nat.reduceSub, Nat.reducePow, Nat.add_sub_cancel, Nat.zero_le, Nat.not_lt_zero, Nat.le_refl, Nat.lt_irrefl, l_0, l_1, l_2, l_3, l_4, l_5, l_6, l_7, l_8, l_9, l_10, l_13, l_14, l_16, l_20, l_24, l_26, l_30, l_31, l_32, l_48, l_57, l_59, l_63, l_96, l_97, l_100, l_122, l_200, l_255, l_256, l_270, l_400, l_429, l_526, l_780, l_800, l_926, l_1726, l_12082, show ¬ (g 7 ≤ k) by omega, if_false, m_widthAt g k (by omega) (hc k (by omega))]
      rw [show sm (gwd_ g) a k + gwd_ g k = sm (gwd_ g) a (k + 1) from (sm_succ _ _ _ h1).symm]
      exact ih (k + 1) (by omega) (by omega) (by omega)
theorem m_bitsFrom (fu : Nat) (hf : 1000 ≤ fu) (g : Nat → Nat) (h7 : g 7 ≤ 800) (hc : ∀ i, i < g 7 → g (926 + i) < 4096) (a : Nat) (ha : a ≤ g 7) : J_X8_bitsFrom fu (nW g) (nI a) = some (nI (sm (gwd_ g) a (g 7))) := by
  unfold J_X8_bitsFrom
  simp (disch := first | omega | assumption) only [nq_neg, nq_fix, nq_sub1, nq_addN, nq_add, nq_mul, nq_sub, nq_ltN, nq_Nlt, nq_leN, nq_Nle, nq_lt, nq_le, nq_eq, nq_div, nq_pow, nq_tn, rd_W, wr_W, nS_eq, nS_ne, Option.bind_some, Option.bind_none, ↓reduceIte, Bool.false_eq_true, Nat.reduceEqDiff, Nat.reduceLT, Nat.reduceLeDiff, Nat.reduceAdd, Nat.reduceMul, Nat.reduceSub, Nat.reducePow, Nat.add_sub_cancel, Nat.zero_le, Nat.not_lt_zero, Nat.le_refl, Nat.lt_irrefl, l_0, l_1, l_2, l_3, l_4, l_5, l_6, l_7, l_8, l_9, l_10, l_13, l_14, l_16, l_20, l_24, l_26, l_30, l_31, l_32, l_48, l_57, l_59, l_63, l_96, l_97, l_100, l_122, l_200, l_255, l_256, l_270, l_400, l_429, l_526, l_780, l_800, l_926, l_1726, l_12082]
  have h1 := m_bsum_b fu g h7 hc a fu a (Nat.le_refl _) ha (by omega)
  rw [sm_self] at h1
  exact h1
theorem m_bitsSince (fu : Nat) (hf : 1000 ≤ fu) (g : Nat → Nat) (h : MB g) : J_X8_bitsSince fu (nW g) = some (nI (sm (gwd_ g) (g 9) (g 7))) := by
  obtain ⟨hd, hp, h97, h7, hc, hv⟩ := h
  unfold J_X8_bitsSince
  simp (disch := first | omega | assumption) only [nq_neg, nq_fix, nq_sub1, nq_addN, nq_add, nq_mul, nq_sub, nq_ltN, nq_Nlt, nq_leN, nq_Nle, nq_lt, nq_le, nq_eq, nq_div, nq_pow, nq_tn, rd_W, wr_W, nS_eq, nS_ne, Option.bind_some, Option.bind_none, ↓reduceIte, Bool.false_eq_true, Nat.reduceEqDiff, Nat.reduceLT, Nat.reduceLeDiff, Nat.reduceAdd, Nat.reduceMul, Nat.reduceSub, Nat.reducePow, Nat.add_sub_cancel, Nat.zero_le, Nat.not_lt_zero, Nat.le_refl, Nat.lt_irrefl, l_0, l_1, l_2, l_3, l_4, l_5, l_6, l_7, l_8, l_9, l_10, l_13, l_14, l_16, l_20, l_24, l_26, l_30, l_31, l_32, l_48, l_57, l_59, l_63, l_96, l_97, l_100, l_122, l_200, l_255, l_256, l_270, l_400, l_429, l_526, l_780, l_800, l_926, l_1726, l_12082, m_bitsFrom fu hf g h7 hc (g 9) h97]
theorem m_allBits (fu : Nat) (hf : 1000 ≤ fu) (g : Nat → Nat) (h : MB g) : J_X8_allBits fu (nW g) = some (nI (sm (gwd_ g) 0 (g 7))) := by
  obtain ⟨hd, hp, h97, h7, hc, hv⟩ := h
  unfold J_X8_allBits
  simp (disch := first | omega | assumption) only [nq_neg, nq_fix, nq_sub1, nq_addN, nq_add, nq_mul, nq_sub, nq_ltN, nq_Nlt, nq_leN, nq_Nle, nq_lt, nq_le, nq_eq, nq_div, nq_pow, nq_tn, rd_W, wr_W, nS_eq, nS_ne, Option.bind_some, Option.bind_none, ↓reduceIte, Bool.false_eq_true, Nat.reduceEqDiff, Nat.reduceLT, Nat.reduceLeDiff, Nat.reduceAdd, Nat.reduceMul, Nat.reduceSub, Nat.reducePow, Nat.add_sub_cancel, Nat.zero_le, Nat.not_lt_zero, Nat.le_refl, Nat.lt_irrefl, l_0, l_1, l_2, l_3, l_4, l_5, l_6, l_7, l_8, l_9, l_10, l_13, l_14, l_16, l_20, l_24, l_26, l_30, l_31, l_32, l_48, l_57, l_59, l_63, l_96, l_97, l_100, l_122, l_200, l_255, l_256, l_270, l_400, l_429, l_526, l_780, l_800, l_926, l_1726, l_12082, m_bitsFrom fu hf g h7 hc 0 (by omega)]
def pcn (z b s : Nat) : Nat := if s = 0 then 0 else 100 * b / (s * bw z)
theorem m_plain (fu : Nat) (hf : 1000 ≤ fu) (g : Nat → Nat) (h : g 0 ≤ 26) : J_X8_plain fu (nW g) = some (nI (bw (g 0))) := by
  unfold J_X8_plain
  simp (disch := first | omega | assumption) only [nq_neg, nq_fix, nq_sub1, nq_addN, nq_add, nq_mul, nq_sub, nq_ltN, nq_Nlt, nq_leN, nq_Nle, nq_lt, nq_le, nq_eq, nq_div, nq_pow, nq_tn, rd_W, wr_W, nS_eq, nS_ne, Option.bind_some, Option.bind_none, ↓reduceIte, Bool.false_eq_true, Nat.reduceEqDiff, Nat.reduceLT, Nat.reduceLeDiff, Nat.reduceAdd, Nat.reduceMul, Nat.reduceSub, Nat.reducePow, Nat.add_sub_cancel, Nat.zero_le, Nat.not_lt_zero, Nat.le_refl, Nat.lt_irrefl, l_0, l_1, l_2, l_3, l_4, l_5, l_6, l_7, l_8, l_9, l_10, l_13, l_14, l_16, l_20, l_24, l_26, l_30, l_31, l_32, l_48, l_57, l_59, l_63, l_96, l_97, l_100, l_122, l_200, l_255, l_256, l_270, l_400, l_429, l_526, l_780, l_800, l_926, l_1726, l_12082, m_bitsFor fu (g 0) (by omega) (by omega)]
theorem m_percentOf (fu : Nat) (hf : 1000 ≤ fu) (g : Nat → Nat) (h : g 0 ≤ 26) (b s : Nat) (hb : b ≤ 10000000) (hs : s ≤ 1000000) : J_X8_percentOf fu (nW g) (nI b) (nI s) = some (nI (pcn (g 0) b s)) := by
  unfold J_X8_percentOf pcn
  have h1 := bw_rng (g 0)
  have h2 : s * bw (g 0) ≤ s * 8 := Nat.mul_le_mul_left s h1.2
  simp (disch := first | omega | assumption) only [nq_neg, nq_fix, nq_sub1, nq_addN, nq_add, nq_mul, nq_sub, nq_ltN, nq_Nlt, nq_leN, nq_Nle, nq_lt, nq_le, nq_eq, nq_div, nq_pow, nq_tn, rd_W, wr_W, nS_eq, nS_ne, Option.bind_some, Option.bind_none, ↓reduceIte, Bool.false_eq_true, Nat.reduceEqDiff, Nat.reduceLT, Nat.reduceLeDiff, Nat.reduceAdd, Nat.reduceMul, Nat.reduceSub, Nat.reducePow, Nat.add_sub_cancel, Nat.zero_le, Nat.not_lt_zero, Nat.le_refl, Nat.lt_irrefl, l_0, l_1, l_2, l_3, l_4, l_5, l_6, l_7, l_8, l_9, l_10, l_13, l_14, l_16, l_20, l_24, l_26, l_30, l_31, l_32, l_48, l_57, l_59, l_63, l_96, l_97, l_100, l_122, l_200, l_255, l_256, l_270, l_400, l_429, l_526, l_780, l_800, l_926, l_1726, l_12082, m_plain fu hf g h]
  by_cases h3 : s = 0
  · rw [if_pos h3, if_pos h3]
  · have h4 : s * 1 ≤ s * bw (g 0) := Nat.mul_le_mul_left s h1.1
    rw [if_neg h3, if_neg h3, if_neg (by omega)]
def gbs (g : Nat → Nat) : Nat := sm (gwd_ g) (g 9) (g 7)
def gss (g : Nat → Nat) : Nat := sm (gln g) (g 9) (g 7)
theorem gbs_le {g : Nat → Nat} (h : MB g) : gbs g ≤ 12800 ∧ gss g ≤ 204800 := by
  obtain ⟨hd, hp, h97, h7, hc, hv⟩ := h
  obtain ⟨⟨_, h0, _, _, _, h4⟩, wd, ud⟩ := id hd
  have h1 := sm_le (gwd_ g) 16 (g 9) (g 7) (fun k _ _ => by unfold gwd_; omega)
  have h2 := sm_le (gln g) 256 (g 9) (g 7) (fun k h5 h6 => by
    have := ph_le wd _ (hv k h5 h6)
    have := hv k h5 h6
    unfold gln gph
    omega)
  unfold gbs gss
  omega
theorem m_percent (fu : Nat) (hf : 1000 ≤ fu) (g : Nat → Nat) (h : MB g) : J_X8_percent fu (nW g) = some (nI (pcn (g 0) (gbs g) (gss g))) := by
  have h1 := gbs_le h
  unfold J_X8_percent
  rw [m_bitsSince fu hf g h, m_symbolsSince fu hf g h]
  have h2 := m_percentOf fu hf g h.1.1.2.1 (gbs g) (gss g) (by omega) (by omega)
  unfold gbs gss at h2 ⊢
  simp only [Option.bind_some, h2]
theorem pcn_le (z b s : Nat) (hb : b ≤ 10000000) : pcn z b s ≤ 1000000000 := by
  unfold pcn
  split
  · omega
  · exact Nat.le_trans (Nat.div_le_self _ _) (by omega)
theorem m_mostCodes (g : Nat → Nat) (h : g 1 ≤ 8) : J_X8_mostCodes (nW g) = some (nI (2 ^ g 1)) := by
  unfold J_X8_mostCodes
  simp (disch := first | omega | assumption) only [nq_neg, nq_fix, nq_sub1, nq_addN, nq_add, nq_mul, nq_sub, nq_ltN, nq_Nlt, nq_leN, nq_Nle, nq_lt, nq_le, nq_eq, nq_div, nq_pow, nq_tn, rd_W, wr_W, nS_eq, nS_ne, Option.bind_some, Option.bind_none, ↓reduceIte, Bool.false_eq_true, Nat.reduceEqDiff, Nat.reduceLT, Nat.reduceLeDiff, Nat.reduceAdd, Nat.reduceMul, Nat.reduceSub, Nat.reducePow, Nat.add_sub_cancel, Nat.zero_le, Nat.not_lt_zero, Nat.le_refl, Nat.lt_irrefl, l_0, l_1, l_2, l_3, l_4, l_5, l_6, l_7, l_8, l_9, l_10, l_13, l_14, l_16, l_20, l_24, l_26, l_30, l_31, l_32, l_48, l_57, l_59, l_63, l_96, l_97, l_100, l_122, l_200, l_255, l_256, l_270, l_400, l_429, l_526, l_780, l_800, l_926, l_1726, l_12082]
theorem m_isAllFull (g : Nat → Nat) (h : g 1 ≤ 8) (h4 : g 4 ≤ 256) : J_X8_isAllFull (nW g) = some (nI (if g 4 = 2 ^ g 1 then 1 else 0)) := by
  have h2 := pow_le8 (g 1) h
  unfold J_X8_isAllFull
  rw [m_mostCodes g h]
  simp (disch := first | omega | assumption) only [nq_neg, nq_fix, nq_sub1, nq_addN, nq_add, nq_mul, nq_sub, nq_ltN, nq_Nlt, nq_leN, nq_Nle, nq_lt, nq_le, nq_eq, nq_div, nq_pow, nq_tn, rd_W, wr_W, nS_eq, nS_ne, Option.bind_some, Option.bind_none, ↓reduceIte, Bool.false_eq_true, Nat.reduceEqDiff, Nat.reduceLT, Nat.reduceLeDiff, Nat.reduceAdd, Nat.reduceMul, Nat.reduceSub, Nat.reducePow, Nat.add_sub_cancel, Nat.zero_le, Nat.not_lt_zero, Nat.le_refl, Nat.lt_irrefl, l_0, l_1, l_2, l_3, l_4, l_5, l_6, l_7, l_8, l_9, l_10, l_13, l_14, l_16, l_20, l_24, l_26, l_30, l_31, l_32, l_48, l_57, l_59, l_63, l_96, l_97, l_100, l_122, l_200, l_255, l_256, l_270, l_400, l_429, l_526, l_780, l_800, l_926, l_1726, l_12082]
  split <;> rfl
def asked (g : Nat → Nat) : Bool := decide (g 4 = 2 ^ g 1) && (decide (g 2 = 1) || (decide (g 2 = 2) && decide (g 3 < pcn (g 0) (gbs g) (gss g))))
theorem m_isAsked (fu : Nat) (hf : 1000 ≤ fu) (g : Nat → Nat) (h : MB g) (h2 : g 2 ≤ 2) (h3 : g 3 ≤ 200) : J_X8_isAsked fu (nW g) = some (nI (if asked g = true then 1 else 0)) := by
  obtain ⟨hd, hp, h97, h7, hc, hv⟩ := id h
  obtain ⟨⟨_, h0, _, h1, _, h4⟩, wd, ud⟩ := id hd
  have hb := gbs_le h
  have hq := pcn_le (g 0) (gbs g) (gss g) (by omega)
  unfold J_X8_isAsked asked
  rw [m_isAllFull g h1 h4]
  by_cases h5 : g 4 = 2 ^ g 1
  · by_cases h6 : g 2 = 2
    · by_cases h8 : g 3 < pcn (g 0) (gbs g) (gss g)
      · simp (disch := first | omega | assumption) only [nq_neg, nq_fix, nq_sub1, nq_addN, nq_add, nq_mul, nq_sub, nq_ltN, nq_Nlt, nq_leN, nq_Nle, nq_lt, nq_le, nq_eq, nq_div, nq_pow, nq_tn, rd_W, wr_W, nS_eq, nS_ne, Option.bind_some, Option.bind_none, ↓reduceIte, Bool.false_eq_true, Nat.reduceEqDiff, Nat.reduceLT, Nat.reduceLeDiff, Nat.reduceAdd, Nat.reduceMul, Nat.reduceSub, Nat.reducePow, Nat.add_sub_cancel, Nat.zero_le, Nat.not_lt_zero, Nat.le_refl, Nat.lt_irrefl, l_0, l_1, l_2, l_3, l_4, l_5, l_6, l_7, l_8, l_9, l_10, l_13, l_14, l_16, l_20, l_24, l_26, l_30, l_31, l_32, l_48, l_57, l_59, l_63, l_96, l_97, l_100, l_122, l_200, l_255, l_256, l_270, l_400, l_429, l_526, l_780, l_800, l_926, l_1726, l_12082, h5, h6, m_percent fu hf g h]
        simp [h8, Nat.not_le.mpr h8]
      · simp (disch := first | omega | assumption) only [nq_neg, nq_fix, nq_sub1, nq_addN, nq_add, nq_mul, nq_sub, nq_ltN, nq_Nlt, nq_leN, nq_Nle, nq_lt, nq_le, nq_eq, nq_div, nq_pow, nq_tn, rd_W, wr_W, nS_eq, nS_ne, Option.bind_some, Option.bind_none, ↓reduceIte, Bool.false_eq_true, Nat.reduceEqDiff, Nat.reduceLT, Nat.reduceLeDiff, Nat.reduceAdd, Nat.reduceMul, Nat.reduceSub, Nat.reducePow, Nat.add_sub_cancel, Nat.zero_le, Nat.not_lt_zero, Nat.le_refl, Nat.lt_irrefl, l_0, l_1, l_2, l_3, l_4, l_5, l_6, l_7, l_8, l_9, l_10, l_13, l_14, l_16, l_20, l_24, l_26, l_30, l_31, l_32, l_48, l_57, l_59, l_63, l_96, l_97, l_100, l_122, l_200, l_255, l_256, l_270, l_400, l_429, l_526, l_780, l_800, l_926, l_1726, l_12082, h5, h6, m_percent fu hf g h]
        simp [h8, Nat.not_lt.mp h8]
    · by_cases h8 : g 2 = 1
      · simp (disch := first | omega | assumption) only [nq_neg, nq_fix, nq_sub1, nq_addN, nq_add, nq_mul, nq_sub, nq_ltN, nq_Nlt, nq_leN, nq_Nle, nq_lt, nq_le, nq_eq, nq_div, nq_pow, nq_tn, rd_W, wr_W, nS_eq, nS_ne, Option.bind_some, Option.bind_none, ↓reduceIte, Bool.false_eq_true, Nat.reduceEqDiff, Nat.reduceLT, Nat.reduceLeDiff, Nat.reduceAdd, Nat.reduceMul, Nat.reduceSub, Nat.reducePow, Nat.add_sub_cancel, Nat.zero_le, Nat.not_lt_zero, Nat.le_refl, Nat.lt_irrefl, l_0, l_1, l_2, l_3, l_4, l_5, l_6, l_7, l_8, l_9, l_10, l_13, l_14, l_16, l_20, l_24, l_26, l_30, l_31, l_32, l_48, l_57, l_59, l_63, l_96, l_97, l_100, l_122, l_200, l_255, l_256, l_270, l_400, l_429, l_526, l_780, l_800, l_926, l_1726, l_12082, h5, h8]
        simp
      · simp (disch := first | omega | assumption) only [nq_neg, nq_fix, nq_sub1, nq_addN, nq_add, nq_mul, nq_sub, nq_ltN, nq_Nlt, nq_leN, nq_Nle, nq_lt, nq_le, nq_eq, nq_div, nq_pow, nq_tn, rd_W, wr_W, nS_eq, nS_ne, Option.bind_some, Option.bind_none, ↓reduceIte, Bool.false_eq_true, Nat.reduceEqDiff, Nat.reduceLT, Nat.reduceLeDiff, Nat.reduceAdd, Nat.reduceMul, Nat.reduceSub, Nat.reducePow, Nat.add_sub_cancel, Nat.zero_le, Nat.not_lt_zero, Nat.le_refl, Nat.lt_irrefl, l_0, l_1, l_2, l_3, l_4, l_5, l_6, l_7, l_8, l_9, l_10, l_13, l_14, l_16, l_20, l_24, l_26, l_30, l_31, l_32, l_48, l_57, l_59, l_63, l_96, l_97, l_100, l_122, l_200, l_255, l_256, l_270, l_400, l_429, l_526, l_780, l_800, l_926, l_1726, l_12082, h5, h6, h8]
        simp [h6, h8]
  · simp (disch := first | omega | assumption) only [nq_neg, nq_fix, nq_sub1, nq_addN, nq_add, nq_mul, nq_sub, nq_ltN, nq_Nlt, nq_leN, nq_Nle, nq_lt, nq_le, nq_eq, nq_div, nq_pow, nq_tn, rd_W, wr_W, nS_eq, nS_ne, Option.bind_some, Option.bind_none, ↓reduceIte, Bool.false_eq_true, Nat.reduceEqDiff, Nat.reduceLT, Nat.reduceLeDiff, Nat.reduceAdd, Nat.reduceMul, Nat.reduceSub, Nat.reducePow, Nat.add_sub_cancel, Nat.zero_le, Nat.not_lt_zero, Nat.le_refl, Nat.lt_irrefl, l_0, l_1, l_2, l_3, l_4, l_5, l_6, l_7, l_8, l_9, l_10, l_13, l_14, l_16, l_20, l_24, l_26, l_30, l_31, l_32, l_48, l_57, l_59, l_63, l_96, l_97, l_100, l_122, l_200, l_255, l_256, l_270, l_400, l_429, l_526, l_780, l_800, l_926, l_1726, l_12082, h5]
    simp
/-! the model's encoder: steps -/
def gk (g : Nat → Nat) (c s : Nat) : Nat := kidS (g 0) (gP g) (gL g) c s (g 4)
theorem m_longer_b (fu : Nat) (g : Nat → Nat) (h : DI g) (c s : Nat) (hc : c < 4294967296) (hs : s < 4294967296) : ∀ n k, g 0 < k → k ≤ g 4 → g 4 < n + k → (∀ j, g 0 < j → j < k → ¬ (gP g j = c ∧ gL g j = s)) →
    J_X8_longer_b7 fu (nW g) n (nI c) (nI s) (nI k) = some (nI (gk g c s)) := by
  intro n
  obtain ⟨⟨_, h0, _, h1, _, h4⟩, wd, ud⟩ := id h
  induction n with
  | zero => intro k _ h1 h2; omega
  | succ n ih =>
    intro k hk1 hk2 hk3 hn
    unfold J_X8_longer_b7
    by_cases h5 : k = g 4
    · subst h5
      simp (disch := first | omega | assumption) only [nq_neg, nq_fix, nq_sub1, nq_addN, nq_add, nq_mul, nq_sub, nq_ltN, nq_Nlt, nq_leN, nq_Nle, nq_lt, nq_le, nq_eq, nq_div, nq_pow, nq_tn, rd_W, wr_W, nS_eq, nS_ne, Option.bind_some, Option.bind_none, ↓reduceIte, Bool.false_eq_true, Nat.reduceEqDiff, Nat.reduceLT, Nat.reduceLeDiff, Nat.reduceAdd, Nat.reduceMul, Nat.reduceSub, Nat.reducePow, Nat.add_sub_cancel, Nat.zero_le, Nat.not_lt_zero, Nat.le_refl, Nat.lt_irrefl, l_0, l_1, l_2, l_3, l_4, l_5, l_6, l_7, l_8, l_9, l_10, l_13, l_14, l_16, l_20, l_24, l_26, l_30, l_31, l_32, l_48, l_57, l_59, l_63, l_96, l_97, l_100, l_122, l_200, l_255, l_256, l_270, l_400, l_429, l_526, l_780, l_800, l_926, l_1726, l_12082]
      rcases kidS_cases (g 0) (gP g) (gL g) c s (g 4) with ⟨h6, _⟩ | ⟨h6, h7, h8, h9⟩
      · unfold gk
        rw [h6]
      · exact absurd ⟨h8, h9⟩ (hn _ h6 h7)
    · have h6 := wd k hk1 (by omega)
      simp (disch := first | omega | assumption) only [nq_neg, nq_fix, nq_sub1, nq_addN, nq_add, nq_mul, nq_sub, nq_ltN, nq_Nlt, nq_leN, nq_Nle, nq_lt, nq_le, nq_eq, nq_div, nq_pow, nq_tn, rd_W, wr_W, nS_eq, nS_ne, Option.bind_some, Option.bind_none, ↓reduceIte, Bool.false_eq_true, Nat.reduceEqDiff, Nat.reduceLT, Nat.reduceLeDiff, Nat.reduceAdd, Nat.reduceMul, Nat.reduceSub, Nat.reducePow, Nat.add_sub_cancel, Nat.zero_le, Nat.not_lt_zero, Nat.le_refl, Nat.lt_irrefl, l_0, l_1, l_2, l_3, l_4, l_5, l_6, l_7, l_8, l_9, l_10, l_13, l_14, l_16, l_20, l_24, l_26, l_30, l_31, l_32, l_48, l_57, l_59, l_63, l_96, l_97, l_100, l_122, l_200, l_255, l_256, l_270, l_400, l_429, l_526, l_780, l_800, l_926, l_1726, l_12082, show ¬ (g 4 ≤ k) by omega, show g (14 + k) = gP g k from rfl, show g (270 + k) = gL g k from rfl]
      have hr : ¬ (gP g k = c ∧ gL g k = s) → _ := fun hx => ih (k + 1) (by omega) (by omega) (by omega) (fun j h7 h8 => by
        rcases Nat.lt_or_ge j k with h9 | h9
        · exact hn j h7 h9
        · have : j = k := by omega
          rw [this]; exact hx)
      by_cases h7 : gP g k = c
      · by_cases h8 : gL g k = s
        · rw [if_pos h7, if_pos h8]
          unfold gk
          rw [kidS_of ud hk1 (by omega) h7 h8]
        · rw [if_pos h7, if_neg h8]
          exact hr (fun h => h8 h.2)
      · rw [if_neg h7]
        exact hr (fun h => h7 h.1)
theorem m_longer (fu : Nat) (hf : 1000 ≤ fu) (g : Nat → Nat) (h : DI g) (c s : Nat) (hc : c < 4294967296) (hs : s < 4294967296) : J_X8_longer fu (nW g) (nI c) (nI s) = some (nI (gk g c s)) := by
  obtain ⟨⟨_, h0, _, h1, _, h4⟩, wd, ud⟩ := id h
  unfold J_X8_longer J_X8_clear
  simp (disch := first | omega | assumption) only [nq_neg, nq_fix, nq_sub1, nq_addN, nq_add, nq_mul, nq_sub, nq_ltN, nq_Nlt, nq_leN, nq_Nle, nq_lt, nq_le, nq_eq, nq_div, nq_pow, nq_tn, rd_W, wr_W, nS_eq, nS_ne, Option.bind_some, Option.bind_none, ↓reduceIte, Bool.false_eq_true, Nat.reduceEqDiff, Nat.reduceLT, Nat.reduceLeDiff, Nat.reduceAdd, Nat.reduceMul, Nat.reduceSub, Nat.reducePow, Nat.add_sub_cancel, Nat.zero_le, Nat.not_lt_zero, Nat.le_refl, Nat.lt_irrefl, l_0, l_1, l_2, l_3, l_4, l_5, l_6, l_7, l_8, l_9, l_10, l_13, l_14, l_16, l_20, l_24, l_26, l_30, l_31, l_32, l_48, l_57, l_59, l_63, l_96, l_97, l_100, l_122, l_200, l_255, l_256, l_270, l_400, l_429, l_526, l_780, l_800, l_926, l_1726, l_12082]
  exact m_longer_b fu g h c s hc hs fu (g 0 + 1) (by omega) (by omega) (by omega) (fun j h1 h2 => by omega)
theorem gk_cases {g : Nat → Nat} (c s : Nat) : gk g c s = 4294967295 ∨ (g 0 < gk g c s ∧ gk g c s < g 4) := by
  rcases kidS_cases (g 0) (gP g) (gL g) c s (g 4) with ⟨h6, _⟩ | ⟨h6, h7, _⟩
  · exact .inl h6
  · exact .inr ⟨h6, h7⟩
def gLearn (g : Nat → Nat) (c s : Nat) : Nat → Nat := nS (nS (nS g (14 + g 4) c) (270 + g 4) s) 4 (g 4 + 1)
theorem m_learns (g : Nat → Nat) (c s : Nat) (h : g 4 < 256) : J_X8_learns (nW g) (nI c) (nI s) = some (nW (gLearn g c s)) := by
  unfold J_X8_learns gLearn
  simp (disch := first | omega | assumption) only [nq_neg, nq_fix, nq_sub1, nq_addN, nq_add, nq_mul, nq_sub, nq_ltN, nq_Nlt, nq_leN, nq_Nle, nq_lt, nq_le, nq_eq, nq_div, nq_pow, nq_tn, rd_W, wr_W, nS_eq, nS_ne, Option.bind_some, Option.bind_none, ↓reduceIte, Bool.false_eq_true, Nat.reduceEqDiff, Nat.reduceLT, Nat.reduceLeDiff, Nat.reduceAdd, Nat.reduceMul, Nat.reduceSub, Nat.reducePow, Nat.add_sub_cancel, Nat.zero_le, Nat.not_lt_zero, Nat.le_refl, Nat.lt_irrefl, l_0, l_1, l_2, l_3, l_4, l_5, l_6, l_7, l_8, l_9, l_10, l_13, l_14, l_16, l_20, l_24, l_26, l_30, l_31, l_32, l_48, l_57, l_59, l_63, l_96, l_97, l_100, l_122, l_200, l_255, l_256, l_270, l_400, l_429, l_526, l_780, l_800, l_926, l_1726, l_12082]
def gCA (g : Nat → Nat) : Nat → Nat := nS (nS g 4 (g 0 + 1)) 9 (g 7)
theorem m_clearsAll (g : Nat → Nat) : J_X8_clearsAll (nW g) = some (nW (gCA g)) := by
  unfold J_X8_clearsAll gCA
  simp (disch := first | omega | assumption) only [nq_neg, nq_fix, nq_sub1, nq_addN, nq_add, nq_mul, nq_sub, nq_ltN, nq_Nlt, nq_leN, nq_Nle, nq_lt, nq_le, nq_eq, nq_div, nq_pow, nq_tn, rd_W, wr_W, nS_eq, nS_ne, Option.bind_some, Option.bind_none, ↓reduceIte, Bool.false_eq_true, Nat.reduceEqDiff, Nat.reduceLT, Nat.reduceLeDiff, Nat.reduceAdd, Nat.reduceMul, Nat.reduceSub, Nat.reducePow, Nat.add_sub_cancel, Nat.zero_le, Nat.not_lt_zero, Nat.le_refl, Nat.lt_irrefl, l_0, l_1, l_2, l_3, l_4, l_5, l_6, l_7, l_8, l_9, l_10, l_13, l_14, l_16, l_20, l_24, l_26, l_30, l_31, l_32, l_48, l_57, l_59, l_63, l_96, l_97, l_100, l_122, l_200, l_255, l_256, l_270, l_400, l_429, l_526, l_780, l_800, l_926, l_1726, l_12082]
def gWr (g : Nat → Nat) (c : Nat) : Nat → Nat := nS (nS (nS g (926 + g 7) (16 * c + bw (g 4))) 7 (g 7 + 1)) 13 (g 13 + (gph g c).length)
theorem m_writes (fu : Nat) (hf : 1000 ≤ fu) (g : Nat → Nat) (h : DI g) (h7 : g 7 < 800) (c : Nat) (hc : c < g 4) : J_X8_writes fu (nW g) (nI c) = some (nW (gWr g c)) := by
  obtain ⟨⟨_, h0, _, h1, _, h4⟩, wd, ud⟩ := id h
  unfold J_X8_writes gWr
  simp (disch := first | omega | assumption) only [nq_neg, nq_fix, nq_sub1, nq_addN, nq_add, nq_mul, nq_sub, nq_ltN, nq_Nlt, nq_leN, nq_Nle, nq_lt, nq_le, nq_eq, nq_div, nq_pow, nq_tn, rd_W, wr_W, nS_eq, nS_ne, Option.bind_some, Option.bind_none, ↓reduceIte, Bool.false_eq_true, Nat.reduceEqDiff, Nat.reduceLT, Nat.reduceLeDiff, Nat.reduceAdd, Nat.reduceMul, Nat.reduceSub, Nat.reducePow, Nat.add_sub_cancel, Nat.zero_le, Nat.not_lt_zero, Nat.le_refl, Nat.lt_irrefl, l_0, l_1, l_2, l_3, l_4, l_5, l_6, l_7, l_8, l_9, l_10, l_13, l_14, l_16, l_20, l_24, l_26, l_30, l_31, l_32, l_48, l_57, l_59, l_63, l_96, l_97, l_100, l_122, l_200, l_255, l_256, l_270, l_400, l_429, l_526, l_780, l_800, l_926, l_1726, l_12082, m_bitsFor fu (g 4) h4 (by omega)]
  obtain ⟨d, e⟩ := gph_of (g' := nS (nS g (926 + g 7) (16 * c + bw (g 4))) 7 (g 7 + 1)) h ⟨by simp (disch := first | omega | assumption) only [nq_neg, nq_fix, nq_sub1, nq_addN, nq_add, nq_mul, nq_sub, nq_ltN, nq_Nlt, nq_leN, nq_Nle, nq_lt, nq_le, nq_eq, nq_div, nq_pow, nq_tn, rd_W, wr_W, nS_eq, nS_ne, Option.bind_some, Option.bind_none, ↓reduceIte, Bool.false_eq_true, Nat.reduceEqDiff, Nat.reduceLT, Nat.reduceLeDiff, Nat.reduceAdd, Nat.reduceMul, Nat.reduceSub, Nat.reducePow, Nat.add_sub_cancel, Nat.zero_le, Nat.not_lt_zero, Nat.le_refl, Nat.lt_irrefl, l_0, l_1, l_2, l_3, l_4, l_5, l_6, l_7, l_8, l_9, l_10, l_13, l_14, l_16, l_20, l_24, l_26, l_30, l_31, l_32, l_48, l_57, l_59, l_63, l_96, l_97, l_100, l_122, l_200, l_255, l_256, l_270, l_400, l_429, l_526, l_780, l_800, l_926, l_1726, l_12082], by simp (disch := first | omega | assumption) only [nq_neg, nq_fix, nq_sub1, nq_addN, nq_add, nq_mul, nq_sub, nq_ltN, nq_Nlt, nq_leN, nq_Nle, nq_lt, nq_le, nq_eq, nq_div, nq_pow, nq_tn, rd_W, wr_W, nS_eq, nS_ne, Option.bind_some, Option.bind_none, ↓reduceIte, Bool.false_eq_true, Nat.reduceEqDiff, Nat.reduceLT, Nat.reduceLeDiff, Nat.reduceAdd, Nat.reduceMul, Nat.reduceSub, Nat.reducePow, Nat.add_sub_cancel, Nat.zero_le, Nat.not_lt_zero, Nat.le_refl, Nat.lt_irrefl, l_0, l_1, l_2, l_3, l_4, l_5, l_6, l_7, l_8, l_9, l_10, l_13, l_14, l_16, l_20, l_24, l_26, l_30, l_31, l_32, l_48, l_57, l_59, l_63, l_96, l_97, l_100, l_122, l_200, l_255, l_256, l_270, l_400, l_429, l_526, l_780, l_800, l_926, l_1726, l_12082], by simp (disch := first | omega | assumption) only [nq_neg, nq_fix, nq_sub1, nq_addN, nq_add, nq_mul, nq_sub, nq_ltN, nq_Nlt, nq_leN, nq_Nle, nq_lt, nq_le, nq_eq, nq_div, nq_pow, nq_tn, rd_W, wr_W, nS_eq, nS_ne, Option.bind_some, Option.bind_none, ↓reduceIte, Bool.false_eq_true, Nat.reduceEqDiff, Nat.reduceLT, Nat.reduceLeDiff, Nat.reduceAdd, Nat.reduceMul, Nat.reduceSub, Nat.reducePow, Nat.add_sub_cancel, Nat.zero_le, Nat.not_lt_zero, Nat.le_refl, Nat.lt_irrefl, l_0, l_1, l_2, l_3, l_4, l_5, l_6, l_7, l_8, l_9, l_10, l_13, l_14, l_16, l_20, l_24, l_26, l_30, l_31, l_32, l_48, l_57, l_59, l_63, l_96, l_97, l_100, l_122, l_200, l_255, l_256, l_270, l_400, l_429, l_526, l_780, l_800, l_926, l_1726, l_12082], fun k h1 h2 => by simp (disch := first | omega | assumption) only [nq_neg, nq_fix, nq_sub1, nq_addN, nq_add, nq_mul, nq_sub, nq_ltN, nq_Nlt, nq_leN, nq_Nle, nq_lt, nq_le, nq_eq, nq_div, nq_pow, nq_tn, rd_W, wr_W, nS_eq, nS_ne, Option.bind_some, Option.bind_none, ↓reduceIte, Bool.false_eq_true, Nat.reduceEqDiff, Nat.reduceLT, Nat.reduceLeDiff, Nat.reduceAdd, Nat.reduceMul, Nat.reduceSub, Nat.reducePow, Nat.add_sub_cancel, Nat.zero_le, Nat.not_lt_zero, Nat.le_refl, Nat.lt_irrefl, l_0, l_1, l_2, l_3, l_4, l_5, l_6, l_7, l_8, l_9, l_10, l_13, l_14, l_16, l_20, l_24, l_26, l_30, l_31, l_32, l_48, l_57, l_59, l_63, l_96, l_97, l_100, l_122, l_200, l_255, l_256, l_270, l_400, l_429, l_526, l_780, l_800, l_926, l_1726, l_12082]⟩
  have e4 : nS (nS g (926 + g 7) (16 * c + bw (g 4))) 7 (g 7 + 1) 4 = g 4 := by simp (disch := first | omega | assumption) only [nq_neg, nq_fix, nq_sub1, nq_addN, nq_add, nq_mul, nq_sub, nq_ltN, nq_Nlt, nq_leN, nq_Nle, nq_lt, nq_le, nq_eq, nq_div, nq_pow, nq_tn, rd_W, wr_W, nS_eq, nS_ne, Option.bind_some, Option.bind_none, ↓reduceIte, Bool.false_eq_true, Nat.reduceEqDiff, Nat.reduceLT, Nat.reduceLeDiff, Nat.reduceAdd, Nat.reduceMul, Nat.reduceSub, Nat.reducePow, Nat.add_sub_cancel, Nat.zero_le, Nat.not_lt_zero, Nat.le_refl, Nat.lt_irrefl, l_0, l_1, l_2, l_3, l_4, l_5, l_6, l_7, l_8, l_9, l_10, l_13, l_14, l_16, l_20, l_24, l_26, l_30, l_31, l_32, l_48, l_57, l_59, l_63, l_96, l_97, l_100, l_122, l_200, l_255, l_256, l_270, l_400, l_429, l_526, l_780, l_800, l_926, l_1726, l_12082]
  rw [m_lengthOf fu _ d (by omega) c (by rw [e4]; exact hc), e c hc]
  simp (disch := first | omega | assumption) only [nq_neg, nq_fix, nq_sub1, nq_addN, nq_add, nq_mul, nq_sub, nq_ltN, nq_Nlt, nq_leN, nq_Nle, nq_lt, nq_le, nq_eq, nq_div, nq_pow, nq_tn, rd_W, wr_W, nS_eq, nS_ne, Option.bind_some, Option.bind_none, ↓reduceIte, Bool.false_eq_true, Nat.reduceEqDiff, Nat.reduceLT, Nat.reduceLeDiff, Nat.reduceAdd, Nat.reduceMul, Nat.reduceSub, Nat.reducePow, Nat.add_sub_cancel, Nat.zero_le, Nat.not_lt_zero, Nat.le_refl, Nat.lt_irrefl, l_0, l_1, l_2, l_3, l_4, l_5, l_6, l_7, l_8, l_9, l_10, l_13, l_14, l_16, l_20, l_24, l_26, l_30, l_31, l_32, l_48, l_57, l_59, l_63, l_96, l_97, l_100, l_122, l_200, l_255, l_256, l_270, l_400, l_429, l_526, l_780, l_800, l_926, l_1726, l_12082]
def gWC (g : Nat → Nat) : Nat → Nat := gCA (nS (gWr g (g 0)) 8 (g 8 + 1))
theorem m_writesClear (fu : Nat) (hf : 1000 ≤ fu) (g : Nat → Nat) (h : DI g) (h7 : g 7 < 800) : J_X8_writesClear fu (nW g) = some (nW (gWC g)) := by
  obtain ⟨⟨_, h0, _, h1, _, h4⟩, wd, ud⟩ := id h
  unfold J_X8_writesClear J_X8_clear gWC
  simp (disch := first | omega | assumption) only [nq_neg, nq_fix, nq_sub1, nq_addN, nq_add, nq_mul, nq_sub, nq_ltN, nq_Nlt, nq_leN, nq_Nle, nq_lt, nq_le, nq_eq, nq_div, nq_pow, nq_tn, rd_W, wr_W, nS_eq, nS_ne, Option.bind_some, Option.bind_none, ↓reduceIte, Bool.false_eq_true, Nat.reduceEqDiff, Nat.reduceLT, Nat.reduceLeDiff, Nat.reduceAdd, Nat.reduceMul, Nat.reduceSub, Nat.reducePow, Nat.add_sub_cancel, Nat.zero_le, Nat.not_lt_zero, Nat.le_refl, Nat.lt_irrefl, l_0, l_1, l_2, l_3, l_4, l_5, l_6, l_7, l_8, l_9, l_10, l_13, l_14, l_16, l_20, l_24, l_26, l_30, l_31, l_32, l_48, l_57, l_59, l_63, l_96, l_97, l_100, l_122, l_200, l_255, l_256, l_270, l_400, l_429, l_526, l_780, l_800, l_926, l_1726, l_12082, m_writes fu hf g h h7 (g 0) (by omega)]
  have e8 : gWr g (g 0) 8 = g 8 := by unfold gWr; simp (disch := first | omega | assumption) only [nq_neg, nq_fix, nq_sub1, nq_addN, nq_add, nq_mul, nq_sub, nq_ltN, nq_Nlt, nq_leN, nq_Nle, nq_lt, nq_le, nq_eq, nq_div, nq_pow, nq_tn, rd_W, wr_W, nS_eq, nS_ne, Option.bind_some, Option.bind_none, ↓reduceIte, Bool.false_eq_true, Nat.reduceEqDiff, Nat.reduceLT, Nat.reduceLeDiff, Nat.reduceAdd, Nat.reduceMul, Nat.reduceSub, Nat.reducePow, Nat.add_sub_cancel, Nat.zero_le, Nat.not_lt_zero, Nat.le_refl, Nat.lt_irrefl, l_0, l_1, l_2, l_3, l_4, l_5, l_6, l_7, l_8, l_9, l_10, l_13, l_14, l_16, l_20, l_24, l_26, l_30, l_31, l_32, l_48, l_57, l_59, l_63, l_96, l_97, l_100, l_122, l_200, l_255, l_256, l_270, l_400, l_429, l_526, l_780, l_800, l_926, l_1726, l_12082]
  rw [e8]
  simp (disch := first | omega | assumption) only [nq_neg, nq_fix, nq_sub1, nq_addN, nq_add, nq_mul, nq_sub, nq_ltN, nq_Nlt, nq_leN, nq_Nle, nq_lt, nq_le, nq_eq, nq_div, nq_pow, nq_tn, rd_W, wr_W, nS_eq, nS_ne, Option.bind_some, Option.bind_none, ↓reduceIte, Bool.false_eq_true, Nat.reduceEqDiff, Nat.reduceLT, Nat.reduceLeDiff, Nat.reduceAdd, Nat.reduceMul, Nat.reduceSub, Nat.reducePow, Nat.add_sub_cancel, Nat.zero_le, Nat.not_lt_zero, Nat.le_refl, Nat.lt_irrefl, l_0, l_1, l_2, l_3, l_4, l_5, l_6, l_7, l_8, l_9, l_10, l_13, l_14, l_16, l_20, l_24, l_26, l_30, l_31, l_32, l_48, l_57, l_59, l_63, l_96, l_97, l_100, l_122, l_200, l_255, l_256, l_270, l_400, l_429, l_526, l_780, l_800, l_926, l_1726, l_12082, m_clearsAll]
def gEP (g : Nat → Nat) (c s : Nat) : Nat → Nat :=
  nS (if asked (gWr g c) = true then gWC (gWr g c) else if g 4 = 2 ^ g 1 then gWr g c else gLearn (gWr g c) c s) 5 (s + 1)
theorem nS_ne_ {g : Nat → Nat} {k v j : Nat} (h : k ≠ j) : nS g k v j = g j := if_neg (fun e => h e.symm)
theorem DE_gWr (g : Nat → Nat) (c : Nat) : DE (gWr g c) g := by
  unfold gWr
  exact ⟨by simp (disch := first | omega | assumption) only [nq_neg, nq_fix, nq_sub1, nq_addN, nq_add, nq_mul, nq_sub, nq_ltN, nq_Nlt, nq_leN, nq_Nle, nq_lt, nq_le, nq_eq, nq_div, nq_pow, nq_tn, rd_W, wr_W, nS_eq, nS_ne, Option.bind_some, Option.bind_none, ↓reduceIte, Bool.false_eq_true, Nat.reduceEqDiff, Nat.reduceLT, Nat.reduceLeDiff, Nat.reduceAdd, Nat.reduceMul, Nat.reduceSub, Nat.reducePow, Nat.add_sub_cancel, Nat.zero_le, Nat.not_lt_zero, Nat.le_refl, Nat.lt_irrefl, l_0, l_1, l_2, l_3, l_4, l_5, l_6, l_7, l_8, l_9, l_10, l_13, l_14, l_16, l_20, l_24, l_26, l_30, l_31, l_32, l_48, l_57, l_59, l_63, l_96, l_97, l_100, l_122, l_200, l_255, l_256, l_270, l_400, l_429, l_526, l_780, l_800, l_926, l_1726, l_12082], by simp (disch := first | omega | assumption) only [nq_neg, nq_fix, nq_sub1, nq_addN, nq_add, nq_mul, nq_sub, nq_ltN, nq_Nlt, nq_leN, nq_Nle, nq_lt, nq_le, nq_eq, nq_div, nq_pow, nq_tn, rd_W, wr_W, nS_eq, nS_ne, Option.bind_some, Option.bind_none, ↓reduceIte, Bool.false_eq_true, Nat.reduceEqDiff, Nat.reduceLT, Nat.reduceLeDiff, Nat.reduceAdd, Nat.reduceMul, Nat.reduceSub, Nat.reducePow, Nat.add_sub_cancel, Nat.zero_le, Nat.not_lt_zero, Nat.le_refl, Nat.lt_irrefl, l_0, l_1, l_2, l_3, l_4, l_5, l_6, l_7, l_8, l_9, l_10, l_13, l_14, l_16, l_20, l_24, l_26, l_30, l_31, l_32, l_48, l_57, l_59, l_63, l_96, l_97, l_100, l_122, l_200, l_255, l_256, l_270, l_400, l_429, l_526, l_780, l_800, l_926, l_1726, l_12082], by simp (disch := first | omega | assumption) only [nq_neg, nq_fix, nq_sub1, nq_addN, nq_add, nq_mul, nq_sub, nq_ltN, nq_Nlt, nq_leN, nq_Nle, nq_lt, nq_le, nq_eq, nq_div, nq_pow, nq_tn, rd_W, wr_W, nS_eq, nS_ne, Option.bind_some, Option.bind_none, ↓reduceIte, Bool.false_eq_true, Nat.reduceEqDiff, Nat.reduceLT, Nat.reduceLeDiff, Nat.reduceAdd, Nat.reduceMul, Nat.reduceSub, Nat.reducePow, Nat.add_sub_cancel, Nat.zero_le, Nat.not_lt_zero, Nat.le_refl, Nat.lt_irrefl, l_0, l_1, l_2, l_3, l_4, l_5, l_6, l_7, l_8, l_9, l_10, l_13, l_14, l_16, l_20, l_24, l_26, l_30, l_31, l_32, l_48, l_57, l_59, l_63, l_96, l_97, l_100, l_122, l_200, l_255, l_256, l_270, l_400, l_429, l_526, l_780, l_800, l_926, l_1726, l_12082], fun k h1 h2 => by simp (disch := first | omega | assumption) only [nq_neg, nq_fix, nq_sub1, nq_addN, nq_add, nq_mul, nq_sub, nq_ltN, nq_Nlt, nq_leN, nq_Nle, nq_lt, nq_le, nq_eq, nq_div, nq_pow, nq_tn, rd_W, wr_W, nS_eq, nS_ne, Option.bind_some, Option.bind_none, ↓reduceIte, Bool.false_eq_true, Nat.reduceEqDiff, Nat.reduceLT, Nat.reduceLeDiff, Nat.reduceAdd, Nat.reduceMul, Nat.reduceSub, Nat.reducePow, Nat.add_sub_cancel, Nat.zero_le, Nat.not_lt_zero, Nat.le_refl, Nat.lt_irrefl, l_0, l_1, l_2, l_3, l_4, l_5, l_6, l_7, l_8, l_9, l_10, l_13, l_14, l_16, l_20, l_24, l_26, l_30, l_31, l_32, l_48, l_57, l_59, l_63, l_96, l_97, l_100, l_122, l_200, l_255, l_256, l_270, l_400, l_429, l_526, l_780, l_800, l_926, l_1726, l_12082]⟩
theorem gWr_MB {g : Nat → Nat} (h : MB g) (h7 : g 7 < 800) {c : Nat} (hc : c < g 4) : MB (gWr g c) := by
  obtain ⟨hd, hp, h97, _, hcc, hv⟩ := h
  obtain ⟨⟨_, h0, _, h1, _, h4⟩, wd, ud⟩ := id hd
  obtain ⟨d, e⟩ := gph_of hd (DE_gWr g c)
  have hb := bw_rng (g 4)
  have e1 : gWr g c 1 = g 1 := by unfold gWr; simp (disch := first | omega | assumption) only [nq_neg, nq_fix, nq_sub1, nq_addN, nq_add, nq_mul, nq_sub, nq_ltN, nq_Nlt, nq_leN, nq_Nle, nq_lt, nq_le, nq_eq, nq_div, nq_pow, nq_tn, rd_W, wr_W, nS_eq, nS_ne, Option.bind_some, Option.bind_none, ↓reduceIte, Bool.false_eq_true, Nat.reduceEqDiff, Nat.reduceLT, Nat.reduceLeDiff, Nat.reduceAdd, Nat.reduceMul, Nat.reduceSub, Nat.reducePow, Nat.add_sub_cancel, Nat.zero_le, Nat.not_lt_zero, Nat.le_refl, Nat.lt_irrefl, l_0, l_1, l_2, l_3, l_4, l_5, l_6, l_7, l_8, l_9, l_10, l_13, l_14, l_16, l_20, l_24, l_26, l_30, l_31, l_32, l_48, l_57, l_59, l_63, l_96, l_97, l_100, l_122, l_200, l_255, l_256, l_270, l_400, l_429, l_526, l_780, l_800, l_926, l_1726, l_12082]
  have e4 : gWr g c 4 = g 4 := by unfold gWr; simp (disch := first | omega | assumption) only [nq_neg, nq_fix, nq_sub1, nq_addN, nq_add, nq_mul, nq_sub, nq_ltN, nq_Nlt, nq_leN, nq_Nle, nq_lt, nq_le, nq_eq, nq_div, nq_pow, nq_tn, rd_W, wr_W, nS_eq, nS_ne, Option.bind_some, Option.bind_none, ↓reduceIte, Bool.false_eq_true, Nat.reduceEqDiff, Nat.reduceLT, Nat.reduceLeDiff, Nat.reduceAdd, Nat.reduceMul, Nat.reduceSub, Nat.reducePow, Nat.add_sub_cancel, Nat.zero_le, Nat.not_lt_zero, Nat.le_refl, Nat.lt_irrefl, l_0, l_1, l_2, l_3, l_4, l_5, l_6, l_7, l_8, l_9, l_10, l_13, l_14, l_16, l_20, l_24, l_26, l_30, l_31, l_32, l_48, l_57, l_59, l_63, l_96, l_97, l_100, l_122, l_200, l_255, l_256, l_270, l_400, l_429, l_526, l_780, l_800, l_926, l_1726, l_12082]
  have e7 : gWr g c 7 = g 7 + 1 := by unfold gWr; simp (disch := first | omega | assumption) only [nq_neg, nq_fix, nq_sub1, nq_addN, nq_add, nq_mul, nq_sub, nq_ltN, nq_Nlt, nq_leN, nq_Nle, nq_lt, nq_le, nq_eq, nq_div, nq_pow, nq_tn, rd_W, wr_W, nS_eq, nS_ne, Option.bind_some, Option.bind_none, ↓reduceIte, Bool.false_eq_true, Nat.reduceEqDiff, Nat.reduceLT, Nat.reduceLeDiff, Nat.reduceAdd, Nat.reduceMul, Nat.reduceSub, Nat.reducePow, Nat.add_sub_cancel, Nat.zero_le, Nat.not_lt_zero, Nat.le_refl, Nat.lt_irrefl, l_0, l_1, l_2, l_3, l_4, l_5, l_6, l_7, l_8, l_9, l_10, l_13, l_14, l_16, l_20, l_24, l_26, l_30, l_31, l_32, l_48, l_57, l_59, l_63, l_96, l_97, l_100, l_122, l_200, l_255, l_256, l_270, l_400, l_429, l_526, l_780, l_800, l_926, l_1726, l_12082]
  have e9 : gWr g c 9 = g 9 := by unfold gWr; simp (disch := first | omega | assumption) only [nq_neg, nq_fix, nq_sub1, nq_addN, nq_add, nq_mul, nq_sub, nq_ltN, nq_Nlt, nq_leN, nq_Nle, nq_lt, nq_le, nq_eq, nq_div, nq_pow, nq_tn, rd_W, wr_W, nS_eq, nS_ne, Option.bind_some, Option.bind_none, ↓reduceIte, Bool.false_eq_true, Nat.reduceEqDiff, Nat.reduceLT, Nat.reduceLeDiff, Nat.reduceAdd, Nat.reduceMul, Nat.reduceSub, Nat.reducePow, Nat.add_sub_cancel, Nat.zero_le, Nat.not_lt_zero, Nat.le_refl, Nat.lt_irrefl, l_0, l_1, l_2, l_3, l_4, l_5, l_6, l_7, l_8, l_9, l_10, l_13, l_14, l_16, l_20, l_24, l_26, l_30, l_31, l_32, l_48, l_57, l_59, l_63, l_96, l_97, l_100, l_122, l_200, l_255, l_256, l_270, l_400, l_429, l_526, l_780, l_800, l_926, l_1726, l_12082]
  have ec : ∀ i, i < g 7 → gWr g c (926 + i) = g (926 + i) := fun i hi => by unfold gWr; simp (disch := first | omega | assumption) only [nq_neg, nq_fix, nq_sub1, nq_addN, nq_add, nq_mul, nq_sub, nq_ltN, nq_Nlt, nq_leN, nq_Nle, nq_lt, nq_le, nq_eq, nq_div, nq_pow, nq_tn, rd_W, wr_W, nS_eq, nS_ne, Option.bind_some, Option.bind_none, ↓reduceIte, Bool.false_eq_true, Nat.reduceEqDiff, Nat.reduceLT, Nat.reduceLeDiff, Nat.reduceAdd, Nat.reduceMul, Nat.reduceSub, Nat.reducePow, Nat.add_sub_cancel, Nat.zero_le, Nat.not_lt_zero, Nat.le_refl, Nat.lt_irrefl, l_0, l_1, l_2, l_3, l_4, l_5, l_6, l_7, l_8, l_9, l_10, l_13, l_14, l_16, l_20, l_24, l_26, l_30, l_31, l_32, l_48, l_57, l_59, l_63, l_96, l_97, l_100, l_122, l_200, l_255, l_256, l_270, l_400, l_429, l_526, l_780, l_800, l_926, l_1726, l_12082]
  have ec' : gWr g c (926 + g 7) = 16 * c + bw (g 4) := by unfold gWr; simp (disch := first | omega | assumption) only [nq_neg, nq_fix, nq_sub1, nq_addN, nq_add, nq_mul, nq_sub, nq_ltN, nq_Nlt, nq_leN, nq_Nle, nq_lt, nq_le, nq_eq, nq_div, nq_pow, nq_tn, rd_W, wr_W, nS_eq, nS_ne, Option.bind_some, Option.bind_none, ↓reduceIte, Bool.false_eq_true, Nat.reduceEqDiff, Nat.reduceLT, Nat.reduceLeDiff, Nat.reduceAdd, Nat.reduceMul, Nat.reduceSub, Nat.reducePow, Nat.add_sub_cancel, Nat.zero_le, Nat.not_lt_zero, Nat.le_refl, Nat.lt_irrefl, l_0, l_1, l_2, l_3, l_4, l_5, l_6, l_7, l_8, l_9, l_10, l_13, l_14, l_16, l_20, l_24, l_26, l_30, l_31, l_32, l_48, l_57, l_59, l_63, l_96, l_97, l_100, l_122, l_200, l_255, l_256, l_270, l_400, l_429, l_526, l_780, l_800, l_926, l_1726, l_12082]
  refine ⟨d, by rw [e1, e4]; exact hp, by rw [e9, e7]; omega, by omega, fun i hi => ?_, fun i h2 hi => ?_⟩
  · rw [e7] at hi
    by_cases h3 : i < g 7
    · rw [ec i h3]; exact hcc i h3
    · rw [show i = g 7 by omega, ec']; omega
  · rw [e7] at hi
    rw [e9] at h2
    rw [e4]
    unfold gcd_
    by_cases h3 : i < g 7
    · rw [ec i h3]; exact hv i h2 h3
    · rw [show i = g 7 by omega, ec']; omega
theorem m_endsPhrase (fu : Nat) (hf : 1000 ≤ fu) (g : Nat → Nat) (h : MB g) (h7 : g 7 < 799) (h2 : g 2 ≤ 2) (h3 : g 3 ≤ 200) (c s : Nat) (hc : c < g 4) : J_X8_endsPhrase fu (nW g) (nI c) (nI s) = some (nW (gEP g c s)) := by
  obtain ⟨hd, hp, h97, _, hcc, hv⟩ := id h
  obtain ⟨⟨_, h0, _, h1, _, h4⟩, wd, ud⟩ := id hd
  have hm := gWr_MB h (by omega) hc
  have e1 : gWr g c 1 = g 1 := by unfold gWr; simp (disch := first | omega | assumption) only [nq_neg, nq_fix, nq_sub1, nq_addN, nq_add, nq_mul, nq_sub, nq_ltN, nq_Nlt, nq_leN, nq_Nle, nq_lt, nq_le, nq_eq, nq_div, nq_pow, nq_tn, rd_W, wr_W, nS_eq, nS_ne, Option.bind_some, Option.bind_none, ↓reduceIte, Bool.false_eq_true, Nat.reduceEqDiff, Nat.reduceLT, Nat.reduceLeDiff, Nat.reduceAdd, Nat.reduceMul, Nat.reduceSub, Nat.reducePow, Nat.add_sub_cancel, Nat.zero_le, Nat.not_lt_zero, Nat.le_refl, Nat.lt_irrefl, l_0, l_1, l_2, l_3, l_4, l_5, l_6, l_7, l_8, l_9, l_10, l_13, l_14, l_16, l_20, l_24, l_26, l_30, l_31, l_32, l_48, l_57, l_59, l_63, l_96, l_97, l_100, l_122, l_200, l_255, l_256, l_270, l_400, l_429, l_526, l_780, l_800, l_926, l_1726, l_12082]
  have e2 : gWr g c 2 = g 2 := by unfold gWr; simp (disch := first | omega | assumption) only [nq_neg, nq_fix, nq_sub1, nq_addN, nq_add, nq_mul, nq_sub, nq_ltN, nq_Nlt, nq_leN, nq_Nle, nq_lt, nq_le, nq_eq, nq_div, nq_pow, nq_tn, rd_W, wr_W, nS_eq, nS_ne, Option.bind_some, Option.bind_none, ↓reduceIte, Bool.false_eq_true, Nat.reduceEqDiff, Nat.reduceLT, Nat.reduceLeDiff, Nat.reduceAdd, Nat.reduceMul, Nat.reduceSub, Nat.reducePow, Nat.add_sub_cancel, Nat.zero_le, Nat.not_lt_zero, Nat.le_refl, Nat.lt_irrefl, l_0, l_1, l_2, l_3, l_4, l_5, l_6, l_7, l_8, l_9, l_10, l_13, l_14, l_16, l_20, l_24, l_26, l_30, l_31, l_32, l_48, l_57, l_59, l_63, l_96, l_97, l_100, l_122, l_200, l_255, l_256, l_270, l_400, l_429, l_526, l_780, l_800, l_926, l_1726, l_12082]
  have e3 : gWr g c 3 = g 3 := by unfold gWr; simp (disch := first | omega | assumption) only [nq_neg, nq_fix, nq_sub1, nq_addN, nq_add, nq_mul, nq_sub, nq_ltN, nq_Nlt, nq_leN, nq_Nle, nq_lt, nq_le, nq_eq, nq_div, nq_pow, nq_tn, rd_W, wr_W, nS_eq, nS_ne, Option.bind_some, Option.bind_none, ↓reduceIte, Bool.false_eq_true, Nat.reduceEqDiff, Nat.reduceLT, Nat.reduceLeDiff, Nat.reduceAdd, Nat.reduceMul, Nat.reduceSub, Nat.reducePow, Nat.add_sub_cancel, Nat.zero_le, Nat.not_lt_zero, Nat.le_refl, Nat.lt_irrefl, l_0, l_1, l_2, l_3, l_4, l_5, l_6, l_7, l_8, l_9, l_10, l_13, l_14, l_16, l_20, l_24, l_26, l_30, l_31, l_32, l_48, l_57, l_59, l_63, l_96, l_97, l_100, l_122, l_200, l_255, l_256, l_270, l_400, l_429, l_526, l_780, l_800, l_926, l_1726, l_12082]
  have e4 : gWr g c 4 = g 4 := by unfold gWr; simp (disch := first | omega | assumption) only [nq_neg, nq_fix, nq_sub1, nq_addN, nq_add, nq_mul, nq_sub, nq_ltN, nq_Nlt, nq_leN, nq_Nle, nq_lt, nq_le, nq_eq, nq_div, nq_pow, nq_tn, rd_W, wr_W, nS_eq, nS_ne, Option.bind_some, Option.bind_none, ↓reduceIte, Bool.false_eq_true, Nat.reduceEqDiff, Nat.reduceLT, Nat.reduceLeDiff, Nat.reduceAdd, Nat.reduceMul, Nat.reduceSub, Nat.reducePow, Nat.add_sub_cancel, Nat.zero_le, Nat.not_lt_zero, Nat.le_refl, Nat.lt_irrefl, l_0, l_1, l_2, l_3, l_4, l_5, l_6, l_7, l_8, l_9, l_10, l_13, l_14, l_16, l_20, l_24, l_26, l_30, l_31, l_32, l_48, l_57, l_59, l_63, l_96, l_97, l_100, l_122, l_200, l_255, l_256, l_270, l_400, l_429, l_526, l_780, l_800, l_926, l_1726, l_12082]
  have e7 : gWr g c 7 = g 7 + 1 := by unfold gWr; simp (disch := first | omega | assumption) only [nq_neg, nq_fix, nq_sub1, nq_addN, nq_add, nq_mul, nq_sub, nq_ltN, nq_Nlt, nq_leN, nq_Nle, nq_lt, nq_le, nq_eq, nq_div, nq_pow, nq_tn, rd_W, wr_W, nS_eq, nS_ne, Option.bind_some, Option.bind_none, ↓reduceIte, Bool.false_eq_true, Nat.reduceEqDiff, Nat.reduceLT, Nat.reduceLeDiff, Nat.reduceAdd, Nat.reduceMul, Nat.reduceSub, Nat.reducePow, Nat.add_sub_cancel, Nat.zero_le, Nat.not_lt_zero, Nat.le_refl, Nat.lt_irrefl, l_0, l_1, l_2, l_3, l_4, l_5, l_6, l_7, l_8, l_9, l_10, l_13, l_14, l_16, l_20, l_24, l_26, l_30, l_31, l_32, l_48, l_57, l_59, l_63, l_96, l_97, l_100, l_122, l_200, l_255, l_256, l_270, l_400, l_429, l_526, l_780, l_800, l_926, l_1726, l_12082]
  have hp2 := pow_le8 (g 1) h1
  unfold J_X8_endsPhrase gEP
  rw [m_writes fu hf g hd (by omega) c hc]
  simp only [Option.bind_some]
  rw [m_isAsked fu hf _ hm (by omega) (by omega), m_isAllFull _ (by omega) (by omega), e1, e4]
  by_cases h5 : asked (gWr g c) = true
  · simp (disch := first | omega | assumption) only [nq_neg, nq_fix, nq_sub1, nq_addN, nq_add, nq_mul, nq_sub, nq_ltN, nq_Nlt, nq_leN, nq_Nle, nq_lt, nq_le, nq_eq, nq_div, nq_pow, nq_tn, rd_W, wr_W, nS_eq, nS_ne, Option.bind_some, Option.bind_none, ↓reduceIte, Bool.false_eq_true, Nat.reduceEqDiff, Nat.reduceLT, Nat.reduceLeDiff, Nat.reduceAdd, Nat.reduceMul, Nat.reduceSub, Nat.reducePow, Nat.add_sub_cancel, Nat.zero_le, Nat.not_lt_zero, Nat.le_refl, Nat.lt_irrefl, l_0, l_1, l_2, l_3, l_4, l_5, l_6, l_7, l_8, l_9, l_10, l_13, l_14, l_16, l_20, l_24, l_26, l_30, l_31, l_32, l_48, l_57, l_59, l_63, l_96, l_97, l_100, l_122, l_200, l_255, l_256, l_270, l_400, l_429, l_526, l_780, l_800, l_926, l_1726, l_12082, h5, m_writesClear fu hf _ hm.1 (by rw [e7]; omega)]
    unfold J_X8_endsPhrase_b32
    simp (disch := first | omega | assumption) only [nq_neg, nq_fix, nq_sub1, nq_addN, nq_add, nq_mul, nq_sub, nq_ltN, nq_Nlt, nq_leN, nq_Nle, nq_lt, nq_le, nq_eq, nq_div, nq_pow, nq_tn, rd_W, wr_W, nS_eq, nS_ne, Option.bind_some, Option.bind_none, ↓reduceIte, Bool.false_eq_true, Nat.reduceEqDiff, Nat.reduceLT, Nat.reduceLeDiff, Nat.reduceAdd, Nat.reduceMul, Nat.reduceSub, Nat.reducePow, Nat.add_sub_cancel, Nat.zero_le, Nat.not_lt_zero, Nat.le_refl, Nat.lt_irrefl, l_0, l_1, l_2, l_3, l_4, l_5, l_6, l_7, l_8, l_9, l_10, l_13, l_14, l_16, l_20, l_24, l_26, l_30, l_31, l_32, l_48, l_57, l_59, l_63, l_96, l_97, l_100, l_122, l_200, l_255, l_256, l_270, l_400, l_429, l_526, l_780, l_800, l_926, l_1726, l_12082]
  · by_cases h6 : g 4 = 2 ^ g 1
    · simp (disch := first | omega | assumption) only [nq_neg, nq_fix, nq_sub1, nq_addN, nq_add, nq_mul, nq_sub, nq_ltN, nq_Nlt, nq_leN, nq_Nle, nq_lt, nq_le, nq_eq, nq_div, nq_pow, nq_tn, rd_W, wr_W, nS_eq, nS_ne, Option.bind_some, Option.bind_none, ↓reduceIte, Bool.false_eq_true, Nat.reduceEqDiff, Nat.reduceLT, Nat.reduceLeDiff, Nat.reduceAdd, Nat.reduceMul, Nat.reduceSub, Nat.reducePow, Nat.add_sub_cancel, Nat.zero_le, Nat.not_lt_zero, Nat.le_refl, Nat.lt_irrefl, l_0, l_1, l_2, l_3, l_4, l_5, l_6, l_7, l_8, l_9, l_10, l_13, l_14, l_16, l_20, l_24, l_26, l_30, l_31, l_32, l_48, l_57, l_59, l_63, l_96, l_97, l_100, l_122, l_200, l_255, l_256, l_270, l_400, l_429, l_526, l_780, l_800, l_926, l_1726, l_12082, h5, h6]
      unfold J_X8_endsPhrase_b32
      simp (disch := first | omega | assumption) only [nq_neg, nq_fix, nq_sub1, nq_addN, nq_add, nq_mul, nq_sub, nq_ltN, nq_Nlt, nq_leN, nq_Nle, nq_lt, nq_le, nq_eq, nq_div, nq_pow, nq_tn, rd_W, wr_W, nS_eq, nS_ne, Option.bind_some, Option.bind_none, ↓reduceIte, Bool.false_eq_true, Nat.reduceEqDiff, Nat.reduceLT, Nat.reduceLeDiff, Nat.reduceAdd, Nat.reduceMul, Nat.reduceSub, Nat.reducePow, Nat.add_sub_cancel, Nat.zero_le, Nat.not_lt_zero, Nat.le_refl, Nat.lt_irrefl, l_0, l_1, l_2, l_3, l_4, l_5, l_6, l_7, l_8, l_9, l_10, l_13, l_14, l_16, l_20, l_24, l_26, l_30, l_31, l_32, l_48, l_57, l_59, l_63, l_96, l_97, l_100, l_122, l_200, l_255, l_256, l_270, l_400, l_429, l_526, l_780, l_800, l_926, l_1726, l_12082]
    · simp (disch := first | omega | assumption) only [nq_neg, nq_fix, nq_sub1, nq_addN, nq_add, nq_mul, nq_sub, nq_ltN, nq_Nlt, nq_leN, nq_Nle, nq_lt, nq_le, nq_eq, nq_div, nq_pow, nq_tn, rd_W, wr_W, nS_eq, nS_ne, Option.bind_some, Option.bind_none, ↓reduceIte, Bool.false_eq_true, Nat.reduceEqDiff, Nat.reduceLT, Nat.reduceLeDiff, Nat.reduceAdd, Nat.reduceMul, Nat.reduceSub, Nat.reducePow, Nat.add_sub_cancel, Nat.zero_le, Nat.not_lt_zero, Nat.le_refl, Nat.lt_irrefl, l_0, l_1, l_2, l_3, l_4, l_5, l_6, l_7, l_8, l_9, l_10, l_13, l_14, l_16, l_20, l_24, l_26, l_30, l_31, l_32, l_48, l_57, l_59, l_63, l_96, l_97, l_100, l_122, l_200, l_255, l_256, l_270, l_400, l_429, l_526, l_780, l_800, l_926, l_1726, l_12082, h5, h6, m_learns _ c s (show gWr g c 4 < 256 by rw [e4]; omega)]
      unfold J_X8_endsPhrase_b32
      simp (disch := first | omega | assumption) only [nq_neg, nq_fix, nq_sub1, nq_addN, nq_add, nq_mul, nq_sub, nq_ltN, nq_Nlt, nq_leN, nq_Nle, nq_lt, nq_le, nq_eq, nq_div, nq_pow, nq_tn, rd_W, wr_W, nS_eq, nS_ne, Option.bind_some, Option.bind_none, ↓reduceIte, Bool.false_eq_true, Nat.reduceEqDiff, Nat.reduceLT, Nat.reduceLeDiff, Nat.reduceAdd, Nat.reduceMul, Nat.reduceSub, Nat.reducePow, Nat.add_sub_cancel, Nat.zero_le, Nat.not_lt_zero, Nat.le_refl, Nat.lt_irrefl, l_0, l_1, l_2, l_3, l_4, l_5, l_6, l_7, l_8, l_9, l_10, l_13, l_14, l_16, l_20, l_24, l_26, l_30, l_31, l_32, l_48, l_57, l_59, l_63, l_96, l_97, l_100, l_122, l_200, l_255, l_256, l_270, l_400, l_429, l_526, l_780, l_800, l_926, l_1726, l_12082]
def gEn (g : Nat → Nat) (s : Nat) : Nat → Nat :=
  if g 5 = 0 then nS (nS (nS g (526 + g 6) s) 6 (g 6 + 1)) 5 (s + 1)
  else if gk g (g 5 - 1) s = 4294967295 then gEP (nS (nS g (526 + g 6) s) 6 (g 6 + 1)) (g 5 - 1) s
  else nS (nS (nS g (526 + g 6) s) 6 (g 6 + 1)) 5 (gk g (g 5 - 1) s + 1)
/-! the model's encoder: a symbol, and what holds of the numbers then -/
def glc (g : Nat → Nat) : Nat := if g 5 = 0 then 0 else (gph g (g 5 - 1)).length
/-- the settings and the encoder's numbers -/
def WB (g : Nat → Nat) : Prop := MB g ∧ g 0 + 2 ≤ 2 ^ g 1 ∧ g 2 ≤ 2 ∧ 1 ≤ g 3 ∧ g 3 ≤ 200 ∧ g 5 ≤ g 4 ∧ g 5 ≠ g 0 + 1 ∧ g 6 ≤ 400 ∧ g 7 ≤ 2 * g 13 ∧ g 13 + glc g = g 6 ∧ g 8 ≤ g 7 ∧ (∀ i, i < g 6 → g (526 + i) < g 0) ∧ (∀ i, i < g 7 → gcd_ g i < 256 ∧ 1 ≤ gwd_ g i ∧ gwd_ g i ≤ 8)
theorem kid_congr {z n : Nat} {P L P' L' : Nat → Nat} (hP : ∀ k, z < k → k < n → P' k = P k) (hL : ∀ k, z < k → k < n → L' k = L k) (c s : Nat) : kidS z P' L' c s n = kidS z P L c s n := by
  induction n with
  | zero => rfl
  | succ n ih =>
    have h1 := ih (fun k h1 h2 => hP k h1 (by omega)) (fun k h1 h2 => hL k h1 (by omega))
    show (if z < n ∧ P' n = c ∧ L' n = s then n else kidS z P' L' c s n) = (if z < n ∧ P n = c ∧ L n = s then n else kidS z P L c s n)
    by_cases h2 : z < n
    · rw [hP n h2 (by omega), hL n h2 (by omega), h1]
    · rw [if_neg (fun h => h2 h.1), if_neg (fun h => h2 h.1), h1]
theorem gk_of {g' g : Nat → Nat} (h : DI g) (e : DE g' g) (c s : Nat) : gk g' c s = gk g c s := by
  obtain ⟨⟨h1, h2, h3, h4, h5, h6⟩, wd, ud⟩ := h
  obtain ⟨e0, e1, e4, e⟩ := e
  unfold gk
  rw [e0, e4]
  exact kid_congr (fun k _ hk => e (14 + k) (by omega) (by omega)) (fun k _ hk => e (270 + k) (by omega) (by omega)) c s
theorem MB_of {g' g : Nat → Nat} (h : MB g) (e : DE g' g) (e7 : g' 7 = g 7) (e9 : g' 9 = g 9) (ec : ∀ i, i < g 7 → g' (926 + i) = g (926 + i)) : MB g' := by
  obtain ⟨hd, hp, h97, h7, hcc, hv⟩ := h
  obtain ⟨d, _⟩ := gph_of hd e
  obtain ⟨e0, e1, e4, e⟩ := e
  refine ⟨d, by rw [e1, e4]; exact hp, by omega, by omega, fun i hi => ?_, fun i h2 hi => ?_⟩
  · rw [ec i (by omega)]; exact hcc i (by omega)
  · unfold gcd_
    rw [ec i (by omega), e4]; exact hv i (by omega) (by omega)
theorem m_encodes (fu : Nat) (hf : 1000 ≤ fu) (g : Nat → Nat) (h : WB g) (h6 : g 6 < 400) (s : Nat) (hs : s < g 0) : J_X8_encodes fu (nW g) (nI s) = some (nW (gEn g s)) := by
  obtain ⟨hm, hq, h2, h31, h3, h5, h50, _, h7, hcov, h8, hsy, hcw⟩ := h
  obtain ⟨hd, hp, h97, _, hcc, hv⟩ := id hm
  obtain ⟨⟨_, h0, _, h1, _, h4⟩, wd, ud⟩ := id hd
  have hp2 := pow_le8 (g 1) h1
  unfold J_X8_encodes gEn
  simp (disch := first | omega | assumption) only [nq_neg, nq_fix, nq_sub1, nq_addN, nq_add, nq_mul, nq_sub, nq_ltN, nq_Nlt, nq_leN, nq_Nle, nq_lt, nq_le, nq_eq, nq_div, nq_pow, nq_tn, rd_W, wr_W, nS_eq, nS_ne, Option.bind_some, Option.bind_none, ↓reduceIte, Bool.false_eq_true, Nat.reduceEqDiff, Nat.reduceLT, Nat.reduceLeDiff, Nat.reduceAdd, Nat.reduceMul, Nat.reduceSub, Nat.reducePow, Nat.add_sub_cancel, Nat.zero_le, Nat.not_lt_zero, Nat.le_refl, Nat.lt_irrefl, l_0, l_1, l_2, l_3, l_4, l_5, l_6, l_7, l_8, l_9, l_10, l_13, l_14, l_16, l_20, l_24, l_26, l_30, l_31, l_32, l_48, l_57, l_59, l_63, l_96, l_97, l_100, l_122, l_200, l_255, l_256, l_270, l_400, l_429, l_526, l_780, l_800, l_926, l_1726, l_12082]
  by_cases h9 : g 5 = 0
  · rw [h9]
    simp (disch := first | omega | assumption) only [nq_neg, nq_fix, nq_sub1, nq_addN, nq_add, nq_mul, nq_sub, nq_ltN, nq_Nlt, nq_leN, nq_Nle, nq_lt, nq_le, nq_eq, nq_div, nq_pow, nq_tn, rd_W, wr_W, nS_eq, nS_ne, Option.bind_some, Option.bind_none, ↓reduceIte, Bool.false_eq_true, Nat.reduceEqDiff, Nat.reduceLT, Nat.reduceLeDiff, Nat.reduceAdd, Nat.reduceMul, Nat.reduceSub, Nat.reducePow, Nat.add_sub_cancel, Nat.zero_le, Nat.not_lt_zero, Nat.le_refl, Nat.lt_irrefl, l_0, l_1, l_2, l_3, l_4, l_5, l_6, l_7, l_8, l_9, l_10, l_13, l_14, l_16, l_20, l_24, l_26, l_30, l_31, l_32, l_48, l_57, l_59, l_63, l_96, l_97, l_100, l_122, l_200, l_255, l_256, l_270, l_400, l_429, l_526, l_780, l_800, l_926, l_1726, l_12082]
  · obtain ⟨d, e⟩ := gph_of (g' := nS (nS g (526 + g 6) s) 6 (g 6 + 1)) hd ⟨by simp (disch := first | omega | assumption) only [nq_neg, nq_fix, nq_sub1, nq_addN, nq_add, nq_mul, nq_sub, nq_ltN, nq_Nlt, nq_leN, nq_Nle, nq_lt, nq_le, nq_eq, nq_div, nq_pow, nq_tn, rd_W, wr_W, nS_eq, nS_ne, Option.bind_some, Option.bind_none, ↓reduceIte, Bool.false_eq_true, Nat.reduceEqDiff, Nat.reduceLT, Nat.reduceLeDiff, Nat.reduceAdd, Nat.reduceMul, Nat.reduceSub, Nat.reducePow, Nat.add_sub_cancel, Nat.zero_le, Nat.not_lt_zero, Nat.le_refl, Nat.lt_irrefl, l_0, l_1, l_2, l_3, l_4, l_5, l_6, l_7, l_8, l_9, l_10, l_13, l_14, l_16, l_20, l_24, l_26, l_30, l_31, l_32, l_48, l_57, l_59, l_63, l_96, l_97, l_100, l_122, l_200, l_255, l_256, l_270, l_400, l_429, l_526, l_780, l_800, l_926, l_1726, l_12082], by simp (disch := first | omega | assumption) only [nq_neg, nq_fix, nq_sub1, nq_addN, nq_add, nq_mul, nq_sub, nq_ltN, nq_Nlt, nq_leN, nq_Nle, nq_lt, nq_le, nq_eq, nq_div, nq_pow, nq_tn, rd_W, wr_W, nS_eq, nS_ne, Option.bind_some, Option.bind_none, ↓reduceIte, Bool.false_eq_true, Nat.reduceEqDiff, Nat.reduceLT, Nat.reduceLeDiff, Nat.reduceAdd, Nat.reduceMul, Nat.reduceSub, Nat.reducePow, Nat.add_sub_cancel, Nat.zero_le, Nat.not_lt_zero, Nat.le_refl, Nat.lt_irrefl, l_0, l_1, l_2, l_3, l_4, l_5, l_6, l_7, l_8, l_9, l_10, l_13, l_14, l_16, l_20, l_24, l_26, l_30, l_31, l_32, l_48, l_57, l_59, l_63, l_96, l_97, l_100, l_122, l_200, l_255, l_256, l_270, l_400, l_429, l_526, l_780, l_800, l_926, l_1726, l_12082], by simp (disch := first | omega | assumption) only [nq_neg, nq_fix, nq_sub1, nq_addN, nq_add, nq_mul, nq_sub, nq_ltN, nq_Nlt, nq_leN, nq_Nle, nq_lt, nq_le, nq_eq, nq_div, nq_pow, nq_tn, rd_W, wr_W, nS_eq, nS_ne, Option.bind_some, Option.bind_none, ↓reduceIte, Bool.false_eq_true, Nat.reduceEqDiff, Nat.reduceLT, Nat.reduceLeDiff, Nat.reduceAdd, Nat.reduceMul, Nat.reduceSub, Nat.reducePow, Nat.add_sub_cancel, Nat.zero_le, Nat.not_lt_zero, Nat.le_refl, Nat.lt_irrefl, l_0, l_1, l_2, l_3, l_4, l_5, l_6, l_7, l_8, l_9, l_10, l_13, l_14, l_16, l_20, l_24, l_26, l_30, l_31, l_32, l_48, l_57, l_59, l_63, l_96, l_97, l_100, l_122, l_200, l_255, l_256, l_270, l_400, l_429, l_526, l_780, l_800, l_926, l_1726, l_12082], fun k h1 h2 => by simp (disch := first | omega | assumption) only [nq_neg, nq_fix, nq_sub1, nq_addN, nq_add, nq_mul, nq_sub, nq_ltN, nq_Nlt, nq_leN, nq_Nle, nq_lt, nq_le, nq_eq, nq_div, nq_pow, nq_tn, rd_W, wr_W, nS_eq, nS_ne, Option.bind_some, Option.bind_none, ↓reduceIte, Bool.false_eq_true, Nat.reduceEqDiff, Nat.reduceLT, Nat.reduceLeDiff, Nat.reduceAdd, Nat.reduceMul, Nat.reduceSub, Nat.reducePow, Nat.add_sub_cancel, Nat.zero_le, Nat.not_lt_zero, Nat.le_refl, Nat.lt_irrefl, l_0, l_1, l_2, l_3, l_4, l_5, l_6, l_7, l_8, l_9, l_10, l_13, l_14, l_16, l_20, l_24, l_26, l_30, l_31, l_32, l_48, l_57, l_59, l_63, l_96, l_97, l_100, l_122, l_200, l_255, l_256, l_270, l_400, l_429, l_526, l_780, l_800, l_926, l_1726, l_12082]⟩
    have hmb : MB (nS (nS g (526 + g 6) s) 6 (g 6 + 1)) := MB_of hm ⟨by simp (disch := first | omega | assumption) only [nq_neg, nq_fix, nq_sub1, nq_addN, nq_add, nq_mul, nq_sub, nq_ltN, nq_Nlt, nq_leN, nq_Nle, nq_lt, nq_le, nq_eq, nq_div, nq_pow, nq_tn, rd_W, wr_W, nS_eq, nS_ne, Option.bind_some, Option.bind_none, ↓reduceIte, Bool.false_eq_true, Nat.reduceEqDiff, Nat.reduceLT, Nat.reduceLeDiff, Nat.reduceAdd, Nat.reduceMul, Nat.reduceSub, Nat.reducePow, Nat.add_sub_cancel, Nat.zero_le, Nat.not_lt_zero, Nat.le_refl, Nat.lt_irrefl, l_0, l_1, l_2, l_3, l_4, l_5, l_6, l_7, l_8, l_9, l_10, l_13, l_14, l_16, l_20, l_24, l_26, l_30, l_31, l_32, l_48, l_57, l_59, l_63, l_96, l_97, l_100, l_122, l_200, l_255, l_256, l_270, l_400, l_429, l_526, l_780, l_800, l_926, l_1726, l_12082], by simp (disch := first | omega | assumption) only [nq_neg, nq_fix, nq_sub1, nq_addN, nq_add, nq_mul, nq_sub, nq_ltN, nq_Nlt, nq_leN, nq_Nle, nq_lt, nq_le, nq_eq, nq_div, nq_pow, nq_tn, rd_W, wr_W, nS_eq, nS_ne, Option.bind_some, Option.bind_none, ↓reduceIte, Bool.false_eq_true, Nat.reduceEqDiff, Nat.reduceLT, Nat.reduceLeDiff, Nat.reduceAdd, Nat.reduceMul, Nat.reduceSub, Nat.reducePow, Nat.add_sub_cancel, Nat.zero_le, Nat.not_lt_zero, Nat.le_refl, Nat.lt_irrefl, l_0, l_1, l_2, l_3, l_4, l_5, l_6, l_7, l_8, l_9, l_10, l_13, l_14, l_16, l_20, l_24, l_26, l_30, l_31, l_32, l_48, l_57, l_59, l_63, l_96, l_97, l_100, l_122, l_200, l_255, l_256, l_270, l_400, l_429, l_526, l_780, l_800, l_926, l_1726, l_12082], by simp (disch := first | omega | assumption) only [nq_neg, nq_fix, nq_sub1, nq_addN, nq_add, nq_mul, nq_sub, nq_ltN, nq_Nlt, nq_leN, nq_Nle, nq_lt, nq_le, nq_eq, nq_div, nq_pow, nq_tn, rd_W, wr_W, nS_eq, nS_ne, Option.bind_some, Option.bind_none, ↓reduceIte, Bool.false_eq_true, Nat.reduceEqDiff, Nat.reduceLT, Nat.reduceLeDiff, Nat.reduceAdd, Nat.reduceMul, Nat.reduceSub, Nat.reducePow, Nat.add_sub_cancel, Nat.zero_le, Nat.not_lt_zero, Nat.le_refl, Nat.lt_irrefl, l_0, l_1, l_2, l_3, l_4, l_5, l_6, l_7, l_8, l_9, l_10, l_13, l_14, l_16, l_20, l_24, l_26, l_30, l_31, l_32, l_48, l_57, l_59, l_63, l_96, l_97, l_100, l_122, l_200, l_255, l_256, l_270, l_400, l_429, l_526, l_780, l_800, l_926, l_1726, l_12082], fun k h1 h2 => by simp (disch := first | omega | assumption) only [nq_neg, nq_fix, nq_sub1, nq_addN, nq_add, nq_mul, nq_sub, nq_ltN, nq_Nlt, nq_leN, nq_Nle, nq_lt, nq_le, nq_eq, nq_div, nq_pow, nq_tn, rd_W, wr_W, nS_eq, nS_ne, Option.bind_some, Option.bind_none, ↓reduceIte, Bool.false_eq_true, Nat.reduceEqDiff, Nat.reduceLT, Nat.reduceLeDiff, Nat.reduceAdd, Nat.reduceMul, Nat.reduceSub, Nat.reducePow, Nat.add_sub_cancel, Nat.zero_le, Nat.not_lt_zero, Nat.le_refl, Nat.lt_irrefl, l_0, l_1, l_2, l_3, l_4, l_5, l_6, l_7, l_8, l_9, l_10, l_13, l_14, l_16, l_20, l_24, l_26, l_30, l_31, l_32, l_48, l_57, l_59, l_63, l_96, l_97, l_100, l_122, l_200, l_255, l_256, l_270, l_400, l_429, l_526, l_780, l_800, l_926, l_1726, l_12082]⟩ (by simp (disch := first | omega | assumption) only [nq_neg, nq_fix, nq_sub1, nq_addN, nq_add, nq_mul, nq_sub, nq_ltN, nq_Nlt, nq_leN, nq_Nle, nq_lt, nq_le, nq_eq, nq_div, nq_pow, nq_tn, rd_W, wr_W, nS_eq, nS_ne, Option.bind_some, Option.bind_none, ↓reduceIte, Bool.false_eq_true, Nat.reduceEqDiff, Nat.reduceLT, Nat.reduceLeDiff, Nat.reduceAdd, Nat.reduceMul, Nat.reduceSub, Nat.reducePow, Nat.add_sub_cancel, Nat.zero_le, Nat.not_lt_zero, Nat.le_refl, Nat.lt_irrefl, l_0, l_1, l_2, l_3, l_4, l_5, l_6, l_7, l_8, l_9, l_10, l_13, l_14, l_16, l_20, l_24, l_26, l_30, l_31, l_32, l_48, l_57, l_59, l_63, l_96, l_97, l_100, l_122, l_200, l_255, l_256, l_270, l_400, l_429, l_526, l_780, l_800, l_926, l_1726, l_12082]) (by simp (disch := first | omega | assumption) only [nq_neg, nq_fix, nq_sub1, nq_addN, nq_add, nq_mul, nq_sub, nq_ltN, nq_Nlt, nq_leN, nq_Nle, nq_lt, nq_le, nq_eq, nq_div, nq_pow, nq_tn, rd_W, wr_W, nS_eq, nS_ne, Option.bind_some, Option.bind_none, ↓reduceIte, Bool.false_eq_true, Nat.reduceEqDiff, Nat.reduceLT, Nat.reduceLeDiff, Nat.reduceAdd, Nat.reduceMul, Nat.reduceSub, Nat.reducePow, Nat.add_sub_cancel, Nat.zero_le, Nat.not_lt_zero, Nat.le_refl, Nat.lt_irrefl, l_0, l_1, l_2, l_3, l_4, l_5, l_6, l_7, l_8, l_9, l_10, l_13, l_14, l_16, l_20, l_24, l_26, l_30, l_31, l_32, l_48, l_57, l_59, l_63, l_96, l_97, l_100, l_122, l_200, l_255, l_256, l_270, l_400, l_429, l_526, l_780, l_800, l_926, l_1726, l_12082]) (fun i hi => by simp (disch := first | omega | assumption) only [nq_neg, nq_fix, nq_sub1, nq_addN, nq_add, nq_mul, nq_sub, nq_ltN, nq_Nlt, nq_leN, nq_Nle, nq_lt, nq_le, nq_eq, nq_div, nq_pow, nq_tn, rd_W, wr_W, nS_eq, nS_ne, Option.bind_some, Option.bind_none, ↓reduceIte, Bool.false_eq_true, Nat.reduceEqDiff, Nat.reduceLT, Nat.reduceLeDiff, Nat.reduceAdd, Nat.reduceMul, Nat.reduceSub, Nat.reducePow, Nat.add_sub_cancel, Nat.zero_le, Nat.not_lt_zero, Nat.le_refl, Nat.lt_irrefl, l_0, l_1, l_2, l_3, l_4, l_5, l_6, l_7, l_8, l_9, l_10, l_13, l_14, l_16, l_20, l_24, l_26, l_30, l_31, l_32, l_48, l_57, l_59, l_63, l_96, l_97, l_100, l_122, l_200, l_255, l_256, l_270, l_400, l_429, l_526, l_780, l_800, l_926, l_1726, l_12082])
    have ek : gk (nS (nS g (526 + g 6) s) 6 (g 6 + 1)) (g 5 - 1) s = gk g (g 5 - 1) s := by
      exact gk_of hd ⟨by simp (disch := first | omega | assumption) only [nq_neg, nq_fix, nq_sub1, nq_addN, nq_add, nq_mul, nq_sub, nq_ltN, nq_Nlt, nq_leN, nq_Nle, nq_lt, nq_le, nq_eq, nq_div, nq_pow, nq_tn, rd_W, wr_W, nS_eq, nS_ne, Option.bind_some, Option.bind_none, ↓reduceIte, Bool.false_eq_true, Nat.reduceEqDiff, Nat.reduceLT, Nat.reduceLeDiff, Nat.reduceAdd, Nat.reduceMul, Nat.reduceSub, Nat.reducePow, Nat.add_sub_cancel, Nat.zero_le, Nat.not_lt_zero, Nat.le_refl, Nat.lt_irrefl, l_0, l_1, l_2, l_3, l_4, l_5, l_6, l_7, l_8, l_9, l_10, l_13, l_14, l_16, l_20, l_24, l_26, l_30, l_31, l_32, l_48, l_57, l_59, l_63, l_96, l_97, l_100, l_122, l_200, l_255, l_256, l_270, l_400, l_429, l_526, l_780, l_800, l_926, l_1726, l_12082], by simp (disch := first | omega | assumption) only [nq_neg, nq_fix, nq_sub1, nq_addN, nq_add, nq_mul, nq_sub, nq_ltN, nq_Nlt, nq_leN, nq_Nle, nq_lt, nq_le, nq_eq, nq_div, nq_pow, nq_tn, rd_W, wr_W, nS_eq, nS_ne, Option.bind_some, Option.bind_none, ↓reduceIte, Bool.false_eq_true, Nat.reduceEqDiff, Nat.reduceLT, Nat.reduceLeDiff, Nat.reduceAdd, Nat.reduceMul, Nat.reduceSub, Nat.reducePow, Nat.add_sub_cancel, Nat.zero_le, Nat.not_lt_zero, Nat.le_refl, Nat.lt_irrefl, l_0, l_1, l_2, l_3, l_4, l_5, l_6, l_7, l_8, l_9, l_10, l_13, l_14, l_16, l_20, l_24, l_26, l_30, l_31, l_32, l_48, l_57, l_59, l_63, l_96, l_97, l_100, l_122, l_200, l_255, l_256, l_270, l_400, l_429, l_526, l_780, l_800, l_926, l_1726, l_12082], by simp (disch := first | omega | assumption) only [nq_neg, nq_fix, nq_sub1, nq_addN, nq_add, nq_mul, nq_sub, nq_ltN, nq_Nlt, nq_leN, nq_Nle, nq_lt, nq_le, nq_eq, nq_div, nq_pow, nq_tn, rd_W, wr_W, nS_eq, nS_ne, Option.bind_some, Option.bind_none, ↓reduceIte, Bool.false_eq_true, Nat.reduceEqDiff, Nat.reduceLT, Nat.reduceLeDiff, Nat.reduceAdd, Nat.reduceMul, Nat.reduceSub, Nat.reducePow, Nat.add_sub_cancel, Nat.zero_le, Nat.not_lt_zero, Nat.le_refl, Nat.lt_irrefl, l_0, l_1, l_2, l_3, l_4, l_5, l_6, l_7, l_8, l_9, l_10, l_13, l_14, l_16, l_20, l_24, l_26, l_30, l_31, l_32, l_48, l_57, l_59, l_63, l_96, l_97, l_100, l_122, l_200, l_255, l_256, l_270, l_400, l_429, l_526, l_780, l_800, l_926, l_1726, l_12082], fun k h1 h2 => by simp (disch := first | omega | assumption) only [nq_neg, nq_fix, nq_sub1, nq_addN, nq_add, nq_mul, nq_sub, nq_ltN, nq_Nlt, nq_leN, nq_Nle, nq_lt, nq_le, nq_eq, nq_div, nq_pow, nq_tn, rd_W, wr_W, nS_eq, nS_ne, Option.bind_some, Option.bind_none, ↓reduceIte, Bool.false_eq_true, Nat.reduceEqDiff, Nat.reduceLT, Nat.reduceLeDiff, Nat.reduceAdd, Nat.reduceMul, Nat.reduceSub, Nat.reducePow, Nat.add_sub_cancel, Nat.zero_le, Nat.not_lt_zero, Nat.le_refl, Nat.lt_irrefl, l_0, l_1, l_2, l_3, l_4, l_5, l_6, l_7, l_8, l_9, l_10, l_13, l_14, l_16, l_20, l_24, l_26, l_30, l_31, l_32, l_48, l_57, l_59, l_63, l_96, l_97, l_100, l_122, l_200, l_255, l_256, l_270, l_400, l_429, l_526, l_780, l_800, l_926, l_1726, l_12082]⟩ _ _
    have e7 : nS (nS g (526 + g 6) s) 6 (g 6 + 1) 7 = g 7 := by simp (disch := omega) only [nS_eq, nS_ne]
    have e2 : nS (nS g (526 + g 6) s) 6 (g 6 + 1) 2 = g 2 := by simp (disch := omega) only [nS_eq, nS_ne]
    have e3 : nS (nS g (526 + g 6) s) 6 (g 6 + 1) 3 = g 3 := by simp (disch := omega) only [nS_eq, nS_ne]
    have e4 : nS (nS g (526 + g 6) s) 6 (g 6 + 1) 4 = g 4 := by simp (disch := omega) only [nS_eq, nS_ne]
    simp (disch := first | omega | assumption) only [nq_neg, nq_fix, nq_sub1, nq_addN, nq_add, nq_mul, nq_sub, nq_ltN, nq_Nlt, nq_leN, nq_Nle, nq_lt, nq_le, nq_eq, nq_div, nq_pow, nq_tn, rd_W, wr_W, nS_eq, nS_ne, Option.bind_some, Option.bind_none, ↓reduceIte, Bool.false_eq_true, Nat.reduceEqDiff, Nat.reduceLT, Nat.reduceLeDiff, Nat.reduceAdd, Nat.reduceMul, Nat.reduceSub, Nat.reducePow, Nat.add_sub_cancel, Nat.zero_le, Nat.not_lt_zero, Nat.le_refl, Nat.lt_irrefl, l_0, l_1, l_2, l_3, l_4, l_5, l_6, l_7, l_8, l_9, l_10, l_13, l_14, l_16, l_20, l_24, l_26, l_30, l_31, l_32, l_48, l_57, l_59, l_63, l_96, l_97, l_100, l_122, l_200, l_255, l_256, l_270, l_400, l_429, l_526, l_780, l_800, l_926, l_1726, l_12082, h9, m_longer fu hf _ d (g 5 - 1) s (by omega) (by omega), ek]
    rcases gk_cases (g := g) (g 5 - 1) s with h10 | ⟨h10, h11⟩
    · rw [h10]
      simp (disch := first | omega | assumption) only [nq_neg, nq_fix, nq_sub1, nq_addN, nq_add, nq_mul, nq_sub, nq_ltN, nq_Nlt, nq_leN, nq_Nle, nq_lt, nq_le, nq_eq, nq_div, nq_pow, nq_tn, rd_W, wr_W, nS_eq, nS_ne, Option.bind_some, Option.bind_none, ↓reduceIte, Bool.false_eq_true, Nat.reduceEqDiff, Nat.reduceLT, Nat.reduceLeDiff, Nat.reduceAdd, Nat.reduceMul, Nat.reduceSub, Nat.reducePow, Nat.add_sub_cancel, Nat.zero_le, Nat.not_lt_zero, Nat.le_refl, Nat.lt_irrefl, l_0, l_1, l_2, l_3, l_4, l_5, l_6, l_7, l_8, l_9, l_10, l_13, l_14, l_16, l_20, l_24, l_26, l_30, l_31, l_32, l_48, l_57, l_59, l_63, l_96, l_97, l_100, l_122, l_200, l_255, l_256, l_270, l_400, l_429, l_526, l_780, l_800, l_926, l_1726, l_12082, m_endsPhrase fu hf _ hmb (by omega) (by omega) (by omega) (g 5 - 1) s (by omega)]
    · simp (disch := first | omega | assumption) only [nq_neg, nq_fix, nq_sub1, nq_addN, nq_add, nq_mul, nq_sub, nq_ltN, nq_Nlt, nq_leN, nq_Nle, nq_lt, nq_le, nq_eq, nq_div, nq_pow, nq_tn, rd_W, wr_W, nS_eq, nS_ne, Option.bind_some, Option.bind_none, ↓reduceIte, Bool.false_eq_true, Nat.reduceEqDiff, Nat.reduceLT, Nat.reduceLeDiff, Nat.reduceAdd, Nat.reduceMul, Nat.reduceSub, Nat.reducePow, Nat.add_sub_cancel, Nat.zero_le, Nat.not_lt_zero, Nat.le_refl, Nat.lt_irrefl, l_0, l_1, l_2, l_3, l_4, l_5, l_6, l_7, l_8, l_9, l_10, l_13, l_14, l_16, l_20, l_24, l_26, l_30, l_31, l_32, l_48, l_57, l_59, l_63, l_96, l_97, l_100, l_122, l_200, l_255, l_256, l_270, l_400, l_429, l_526, l_780, l_800, l_926, l_1726, l_12082, show ¬ (gk g (g 5 - 1) s = 4294967295) by omega]
