/-! the tape, both sides: append, truncate -/
theorem rd_F (n : Nat) (f : Nat → Int32) (i : Nat) (hi : i < n) (hn : i < 2147483648) : j_rd n f (nI i) = some (f i) := by
  unfold j_rd
  rw [if_neg, nq_tn i hn]
  · rw [nq_tn i hn, l_0, nq_lt i 0 hn (by omega)]
    omega
theorem wr_F (n : Nat) (f : Nat → Int32) (i : Nat) (v : Int32) (hi : i < n) (hn : i < 2147483648) : j_wr n f (nI i) v = some (upd f i v) := by
  unfold j_wr
  rw [if_neg, nq_tn i hn]
  · rw [nq_tn i hn, l_0, nq_lt i 0 hn (by omega)]
    omega
theorem at_F (n : Nat) (f : Nat → Int32) (i : Nat) (hi : i < n) (hn : n < 2147483648) : J_X7_at n f (nI i) = some (f i) := by
  unfold J_X7_at
  rw [l_0]
  try simp (disch := first | omega | assumption) only [nq_le, nq_lt, nq_eq]
  rw [if_neg (by omega)]
  try simp (disch := first | omega | assumption) only [nq_le, nq_lt, nq_eq]
  rw [if_neg (by omega), rd_F n f i hi (by omega)]
  rfl
theorem put_F (n : Nat) (f : Nat → Int32) (i : Nat) (v : Int32) (hi : i < n) (hn : n < 2147483648) : J_X7_put n f (nI i) v = some (upd f i v) := by
  unfold J_X7_put
  rw [l_0]
  try simp (disch := first | omega | assumption) only [nq_le, nq_lt, nq_eq]
  rw [if_neg (by omega)]
  try simp (disch := first | omega | assumption) only [nq_le, nq_lt, nq_eq]
  rw [if_neg (by omega), wr_F n f i v hi (by omega)]
  rfl
def sb (b : Nat) : Int32 := if b < 128 then nI b else nI (b + 4294967040)
theorem sb_int : ∀ b, b < 256 → (sb b).toInt = if b < 128 then (b : Int) else (b : Int) - 256 := by decide +kernel
theorem sb_nar : ∀ b, b < 256 → vp_nar .byte (sb b) = sb b := by decide +kernel
def wb (x : Int32) (i : Nat) : Nat := x.toUInt32.toNat / 2 ^ (24 - 8 * i) % 256
theorem wb_lt (x : Int32) (i : Nat) : wb x i < 256 := Nat.mod_lt _ (by omega)
theorem an255 (v : UInt32) : v.toInt32 &&& (255 : Int32) = nI (v.toNat % 256) := by
  refine Int32.toBitVec_inj.mp (BitVec.eq_of_toNat_eq ?_)
  show (v.toBitVec &&& (255 : Int32).toBitVec).toNat = (BitVec.ofNat 32 (v.toNat % 256)).toNat
  rw [BitVec.toNat_and, BitVec.toNat_ofNat, show ((255 : Int32).toBitVec).toNat = 2 ^ 8 - 1 from by decide, Nat.and_two_pow_sub_one_eq_mod]
  show v.toNat % 2 ^ 8 = _
  omega
theorem four (i : Nat) (h : i < 4) : i = 0 ∨ i = 1 ∨ i = 2 ∨ i = 3 := by omega
theorem wb_u (x : Int32) (i : Nat) (hi : i < 4) : ((x.toUInt32 >>> (((24 : Int32) - (8 : Int32) * nI i).toUInt32 &&& Int32.toUInt32 31)).toInt32) &&& (255 : Int32) = nI (wb x i) := by
  have H : ∀ (s : UInt32) (k : Nat), s.toNat % 32 = k → ((x.toUInt32 >>> s).toInt32) &&& (255 : Int32) = nI (x.toUInt32.toNat / 2 ^ k % 256) := by
    intro s k hs
    rw [an255, UInt32.toNat_shiftRight, hs, Nat.shiftRight_eq_div_pow]
  unfold wb
  rcases four i hi with rfl | rfl | rfl | rfl
  · exact H _ 24 (by decide)
  · exact H _ 16 (by decide)
  · exact H _ 8 (by decide)
  · exact H _ 0 (by decide)
theorem i32_nat (y : Int32) : y.toInt = if 2 * y.toUInt32.toNat < 4294967296 then (y.toUInt32.toNat : Int) else (y.toUInt32.toNat : Int) - 4294967296 := by
  show y.toBitVec.toInt = _
  rw [BitVec.toInt_eq_toNat_cond]
  rfl
theorem nar8 (y : Int32) : y.toInt8.toInt32 = sb (y.toUInt32.toNat % 256) := by
  apply Int32.toInt_inj.mp
  rw [sb_int _ (by omega), Int8.toInt_toInt32, Int32.toInt_toInt8, Int.bmod_def, i32_nat y]
  have h := y.toUInt32.toNat_lt
  generalize y.toUInt32.toNat = w at h ⊢
  have e : ((2 : Nat) ^ 8) = 256 := rfl
  rw [e]
  split <;> split <;> split <;> omega
theorem shI (x s : Int32) (k : Nat) (h : (s.toBitVec.smod 32).toNat = k) : (x >>> s).toInt = x.toInt / ((2 ^ k : Nat) : Int) := by
  show (x.toBitVec.sshiftRight' (s.toBitVec.smod 32)).toInt = _
  rw [BitVec.toInt_sshiftRight', Int.shiftRight_eq_div_pow, h]
  rfl
theorem wb_s (x : Int32) (i : Nat) (hi : i < 4) : vp_nar .byte ((x >>> ((nI 24 - nI (8 * i)) &&& 31)).toInt8.toInt32) = sb (wb x i) := by
  have H : ∀ (s : Int32) (k : Nat), (s.toBitVec.smod 32).toNat = k → k = 0 ∨ k = 8 ∨ k = 16 ∨ k = 24 → vp_nar .byte ((x >>> s).toInt8.toInt32) = sb (x.toUInt32.toNat / 2 ^ k % 256) := by
    intro s k hs hk
    have h1 := shI x s k hs
    rw [nar8]
    have h2 : (x >>> s).toUInt32.toNat % 256 = x.toUInt32.toNat / 2 ^ k % 256 := by
      rw [i32_nat, i32_nat x] at h1
      have a1 := (x >>> s).toUInt32.toNat_lt
      have a2 := x.toUInt32.toNat_lt
      generalize (x >>> s).toUInt32.toNat = u at h1 a1 ⊢
      generalize x.toUInt32.toNat = w at h1 a2 ⊢
      rcases hk with rfl | rfl | rfl | rfl
      · revert h1
        rw [show ((2 ^ 0 : Nat) : Int) = 1 from rfl, show (2 : Nat) ^ 0 = 1 from rfl]
        split <;> split <;> intro h1 <;> omega
      · revert h1
        rw [show ((2 ^ 8 : Nat) : Int) = 256 from rfl, show (2 : Nat) ^ 8 = 256 from rfl]
        split <;> split <;> intro h1 <;> omega
      · revert h1
        rw [show ((2 ^ 16 : Nat) : Int) = 65536 from rfl, show (2 : Nat) ^ 16 = 65536 from rfl]
        split <;> split <;> intro h1 <;> omega
      · revert h1
        rw [show ((2 ^ 24 : Nat) : Int) = 16777216 from rfl, show (2 : Nat) ^ 24 = 16777216 from rfl]
        split <;> split <;> intro h1 <;> omega
    rw [h2]
    exact sb_nar _ (Nat.mod_lt _ (by omega))
  unfold wb
  rcases four i hi with rfl | rfl | rfl | rfl
  · exact H _ 24 (by decide) (by omega)
  · exact H _ 16 (by decide) (by omega)
  · exact H _ 8 (by decide) (by omega)
  · exact H _ 0 (by decide) (by omega)
def ap (f : Nat → Int32) (T : Nat) (q : Nat → Int32) (i : Nat) : Nat → Int32 := fun j => if T ≤ j ∧ j < T + i then q (j - T) else f j
theorem ap_zero (f : Nat → Int32) (T : Nat) (q : Nat → Int32) : ap f T q 0 = f := funext fun j => if_neg (by omega)
theorem ap_succ (f : Nat → Int32) (T : Nat) (q : Nat → Int32) (i : Nat) : upd (ap f T q i) (T + i) (q i) = ap f T q (i + 1) := by
  funext j
  show (if j = T + i then q i else if T ≤ j ∧ j < T + i then q (j - T) else f j) = (if T ≤ j ∧ j < T + (i + 1) then q (j - T) else f j)
  by_cases c : j = T + i
  · subst c
    rw [if_pos rfl, if_pos ⟨by omega, by omega⟩, Nat.add_sub_cancel_left]
  · rw [if_neg c]
    by_cases d : T ≤ j ∧ j < T + i
    · rw [if_pos d, if_pos ⟨d.1, by omega⟩]
    · rw [if_neg d, if_neg (by omega)]
def TP (f v : Nat → Int32) (T : Nat) (b : Nat → Nat) : Prop := T ≤ 800 ∧ ∀ i, i < T → b i < 256 ∧ f i = nI (b i) ∧ v i = sb (b i)
def apB (b : Nat → Nat) (T : Nat) (x : Int32) : Nat → Nat := fun j => if T ≤ j then wb x (j - T) else b j
theorem TP_ap {f v : Nat → Int32} {T : Nat} {b : Nat → Nat} (h : TP f v T b) (hT : T + 4 ≤ 800) (x : Int32) : TP (ap f T (fun i => nI (wb x i)) 4) (ap v T (fun i => sb (wb x i)) 4) (T + 4) (apB b T x) := by
  refine ⟨hT, fun i hi => ?_⟩
  show (if T ≤ i then wb x (i - T) else b i) < 256 ∧ (if T ≤ i ∧ i < T + 4 then nI (wb x (i - T)) else f i) = nI (if T ≤ i then wb x (i - T) else b i) ∧ (if T ≤ i ∧ i < T + 4 then sb (wb x (i - T)) else v i) = sb (if T ≤ i then wb x (i - T) else b i)
  by_cases c : T ≤ i
  · rw [if_pos c, if_pos ⟨c, hi⟩, if_pos ⟨c, hi⟩]
    exact ⟨wb_lt _ _, rfl, rfl⟩
  · rw [if_neg c, if_neg (by omega), if_neg (by omega)]
    exact h.2 i (by omega)
theorem k_aw_b (fu : Nat) (f : Nat → Int32) (T : Nat) (hT : T + 4 ≤ 800) (x : Int32) : ∀ n i, i ≤ 4 → 4 < n + i →
    J_X7_appendWord_b2 fu n (nI T) (ap f T (fun i => nI (wb x i)) i) x (nI i) = some (nI (T + 4), ap f T (fun i => nI (wb x i)) 4) := by
  intro n
  induction n with
  | zero => intro i h1 h2; omega
  | succ n ih =>
    intro i h1 h2
    unfold J_X7_appendWord_b2
    rw [l_4]
    try simp (disch := first | omega | assumption) only [nq_le, nq_lt, nq_eq]
    by_cases c : i = 4
    · subst c
      rw [if_pos (by omega), nq_add]
    · rw [if_neg (by omega), wb_u x i (by omega), nq_add, put_F 800 _ (T + i) _ (by omega) (by omega), ap_succ f T (fun i => nI (wb x i)) i]
      simp only [Option.bind_some, l_1, nq_add]
      exact ih (i + 1) (by omega) (by omega)
theorem k_appendWord (fu : Nat) (hf : 20000 ≤ fu) (f : Nat → Int32) (T : Nat) (hT : T + 4 ≤ 800) (x : Int32) : J_X7_appendWord fu (nI T) f x = some (nI (T + 4), ap f T (fun i => nI (wb x i)) 4) := by
  have := k_aw_b fu f T hT x fu 0 (by omega) (by omega)
  rw [ap_zero] at this
  exact this
theorem ty_step : ∀ i, i < 4 → (nI 24 - nI (8 * i)) + (-8 : Int32) = nI 24 - nI (8 * (i + 1)) ∧ ¬ (nI 24 - nI (8 * i) < 0) := by decide
theorem m_tp_b (fu : Nat) (f : Nat → Int32) (T : Nat) (hT : T + 4 ≤ 800) (x : Int32) : ∀ n i, i ≤ 4 → 4 < n + i →
    J_X8_tapes_b3 fu n (ap f T (fun i => sb (wb x i)) i) (nI (T + i)) x (nI 24 - nI (8 * i)) = some (ap f T (fun i => sb (wb x i)) 4, nI (T + 4)) := by
  intro n
  induction n with
  | zero => intro i h1 h2; omega
  | succ n ih =>
    intro i h1 h2
    unfold J_X8_tapes_b3
    by_cases c : i = 4
    · subst c
      rw [if_pos (by decide)]
    · obtain ⟨a1, a2⟩ := ty_step i (by omega)
      rw [if_neg a2, wb_s x i (by omega), wr_F 800 _ (T + i) _ (by omega) (by omega), a1]
      simp only [Option.bind_some, l_1, nq_add]
      rw [ap_succ f T (fun i => sb (wb x i)) i]
      exact ih (i + 1) (by omega) (by omega)
theorem m_tapes (fu : Nat) (hf : 20000 ≤ fu) (f : Nat → Int32) (T : Nat) (hT : T + 4 ≤ 800) (x : Int32) : J_X8_tapes fu f (nI T) x = some (ap f T (fun i => sb (wb x i)) 4, nI (T + 4)) := by
  have := m_tp_b fu f T hT x fu 0 (by omega) (by omega)
  rw [ap_zero] at this
  exact this
theorem t_append (fu : Nat) (hf : 20000 ≤ fu) (t : Int32) {f v : Nat → Int32} {T : Nat} {b : Nat → Nat} (h : TP f v T b) (f_dec : Nat → Int32) (ee : ES) (oo : OS) (tt : TS) (rr : RS) (sw : SS) (hh : HS) (x0 x1 x2 x3 x4 : Int32) :
    (∃ r f' v' T' b', J_X7_append fu (nI T) f f_dec ee oo tt rr sw hh x0 x1 x2 x3 x4 = some (.inl r, nI T', f') ∧ J_X8_append fu v (nI T) t x0 x1 x2 x3 x4 = some (r, v', nI T', nI 0) ∧ TP f' v' T' b') ∨
    (J_X7_append fu (nI T) f f_dec ee oo tt rr sw hh x0 x1 x2 x3 x4 = some (.inr "java/lang/IllegalStateException", nI T, f) ∧ J_X8_append fu v (nI T) t x0 x1 x2 x3 x4 = some (nI 0, v, nI T, nI 1)) := by
  have hT := h.1
  unfold J_X7_append J_X8_append
  simp only [l_20, l_800, l_780, nq_add]
  try simp (disch := first | omega | assumption) only [nq_le, nq_lt, nq_eq]
  by_cases c : T + 20 ≤ 800
  · have t1 := TP_ap h (by omega) x0
    have t2 := TP_ap t1 (by omega) x1
    have t3 := TP_ap t2 (by omega) x2
    have t4 := TP_ap t3 (by omega) x3
    have t5 := TP_ap t4 (by omega) x4
    refine .inl ⟨nI (T + 4 + 4 + 4 + 4 + 4), _, _, _, _, ?_, ?_, t5⟩
    · rw [if_pos c]
      rw [k_appendWord fu hf _ _ (by omega)]
      simp only [Option.bind_some]
      rw [k_appendWord fu hf _ _ (by omega)]
      simp only [Option.bind_some]
      rw [k_appendWord fu hf _ _ (by omega)]
      simp only [Option.bind_some]
      rw [k_appendWord fu hf _ _ (by omega)]
      simp only [Option.bind_some]
      rw [k_appendWord fu hf _ _ (by omega)]
      rfl
    · rw [if_pos (show T ≤ 780 by omega)]
      rw [m_tapes fu hf _ _ (by omega)]
      simp only [Option.bind_some]
      rw [m_tapes fu hf _ _ (by omega)]
      simp only [Option.bind_some]
      rw [m_tapes fu hf _ _ (by omega)]
      simp only [Option.bind_some]
      rw [m_tapes fu hf _ _ (by omega)]
      simp only [Option.bind_some]
      rw [m_tapes fu hf _ _ (by omega)]
      rfl
  · refine .inr ⟨?_, ?_⟩
    · rw [if_neg c]
    · rw [if_neg (show ¬ (T ≤ 780) by omega)]
      rfl
theorem TP_le {f v : Nat → Int32} {T : Nat} {b : Nat → Nat} (h : TP f v T b) {T' : Nat} (hT : T' ≤ T) : TP f v T' b := ⟨by have := h.1; omega, fun i hi => h.2 i (by omega)⟩
theorem t_truncate (t : Int32) {f v : Nat → Int32} {T : Nat} {b : Nat → Nat} (h : TP f v T b) (x : Int32) :
    (∃ r T', J_X7_truncate (nI T) x = some (.inl r, nI T') ∧ J_X8_truncate (nI T) t x = some (r, nI T', nI 0) ∧ TP f v T' b) ∨
    (J_X7_truncate (nI T) x = some (.inr "java/lang/IllegalArgumentException", nI T) ∧ J_X8_truncate (nI T) t x = some (nI 0, nI T, nI 1)) := by
  have hT := h.1
  unfold J_X7_truncate J_X7_truncate_b12 J_X8_truncate
  rcases cls32 x (T + 1) (by omega) with hx | ⟨p, hp, rfl⟩ | ⟨p, h1, h2, rfl⟩
  · refine .inr ⟨if_pos hx, ?_⟩
    rw [l_0, m_inNeg x _ hx]
    rfl
  · refine .inl ⟨nI (T - p), T - p, ?_, ?_, TP_le h (by omega)⟩
    · rw [l_0]
      try simp (disch := first | omega | assumption) only [nq_le, nq_lt, nq_eq]
      rw [if_neg (by omega)]
      try simp (disch := first | omega | assumption) only [nq_le, nq_lt, nq_eq]
      rw [if_pos (by omega), nq_sub _ _ (by omega)]
    · rw [l_0, m_in p 0 T (by omega) (by omega) (by omega), if_pos (show 0 ≤ p ∧ p ≤ T by omega), nq_sub _ _ (by omega)]
      rfl
  · refine .inr ⟨?_, ?_⟩
    · rw [l_0]
      try simp (disch := first | omega | assumption) only [nq_le, nq_lt, nq_eq]
      rw [if_neg (by omega)]
      try simp (disch := first | omega | assumption) only [nq_le, nq_lt, nq_eq]
      rw [if_neg (by omega)]
    · rw [l_0, m_in p 0 T (by omega) (by omega) (by omega), if_neg (show ¬ (0 ≤ p ∧ p ≤ T) by omega)]
      rfl
