/-! statements of a setup text, both sides -/
theorem k_rl_eq (fu : Nat) (f : Nat → Int32) (m : Nat) (t0 : TS) (a w po li : Int32) (rs : Nat → Int32) (ct y : Int32) : J_X4_readLetters_b35 fu t0 800 f (m + 1) (mkR a w po li rs ct) y =
    if t_end t0 ≤ y then some ((1 : Int32), mkR a w po li rs ct) else
    (J_X7_at 800 f y).bind fun z4 => if (z4 - (97 : Int32)) < a then (J_X7_put 400 rs ct (z4 - (97 : Int32))).bind fun z7 => J_X4_readLetters_b35 fu t0 800 f m (mkR a w po li z7 (ct + (1 : Int32))) (y + 1) else some ((0 : Int32), mkR a w po li rs ct) := rfl
theorem k_rl_b (fu : Nat) {f : Nat → Int32} {b : Nat → Nat} {T s n : Nat} (hT : T ≤ 800) (hv : ∀ i, i < T → b i < 256 ∧ f i = nI (b i)) (hn : n ≤ T) (hlet : ∀ i, s ≤ i → i < n → bLe b i) (z : Nat) (hz : z ≤ 26) (w po li x y : Int32) (c : Nat) (hc : c + (n - s) ≤ 400) : ∀ m j rs, s ≤ j → j ≤ n → n < m + j →
    ((∀ i, j ≤ i → i < n → b i < 97 + z) → ∃ rs', J_X4_readLetters_b35 fu (mkT (nI T) x y (nI n)) 800 f m (mkR (nI z) w po li rs (nI (c + (j - s)))) (nI j) = some (nI 1, mkR (nI z) w po li rs' (nI (c + (n - s)))) ∧ (∀ i, i < c + (j - s) → rs' i = rs i) ∧ ∀ i, j ≤ i → i < n → rs' (c + (i - s)) = nI (b i - 97)) ∧
    (¬ (∀ i, j ≤ i → i < n → b i < 97 + z) → ∃ r', J_X4_readLetters_b35 fu (mkT (nI T) x y (nI n)) 800 f m (mkR (nI z) w po li rs (nI (c + (j - s)))) (nI j) = some (nI 0, r')) := by
  intro m
  induction m with
  | zero => intro j rs h1 h2 h3; omega
  | succ m ih =>
    intro j rs h1 h2 h3
    rw [k_rl_eq]
    show ((∀ i, j ≤ i → i < n → b i < 97 + z) → ∃ rs', (if nI n ≤ nI j then some ((1 : Int32), mkR (nI z) w po li rs (nI (c + (j - s)))) else _) = _ ∧ _) ∧ (¬ (∀ i, j ≤ i → i < n → b i < 97 + z) → ∃ r', (if nI n ≤ nI j then some ((1 : Int32), mkR (nI z) w po li rs (nI (c + (j - s)))) else _) = _)
    by_cases d : n ≤ j
    · rw [if_pos (by rw [nq_le _ _ (by omega) (by omega)]; exact d)]
      refine ⟨fun _ => ⟨rs, ?_, fun i _ => rfl, fun i h4 h5 => by omega⟩, fun h => absurd (fun i h4 h5 => by omega) h⟩
      rw [show j = n by omega]
      rfl
    · rw [if_neg (by rw [nq_le _ _ (by omega) (by omega)]; exact d)]
      obtain ⟨h4, h5⟩ := hv j (by omega)
      have hl := hlet j h1 (by omega)
      unfold bLe at hl
      rw [at_F 800 f j (by omega) (by omega), h5]
      simp only [Option.bind_some]
      rw [l_97, nq_sub _ _ hl.1]
      by_cases q : b j < 97 + z
      · rw [if_pos (by rw [nq_lt _ _ (by omega) (by omega)]; omega), put_F 400 rs _ _ (by omega) (by omega)]
        simp only [Option.bind_some, l_1, nq_add]
        obtain ⟨i1, i2⟩ := ih (j + 1) (upd rs (c + (j - s)) (nI (b j - 97))) (by omega) (by omega) (by omega)
        rw [show c + (j + 1 - s) = c + (j - s) + 1 by omega] at i1 i2
        refine ⟨fun h => ?_, fun h => i2 fun h6 => h fun i h7 h8 => ?_⟩
        · obtain ⟨rs', a1, a2, a3⟩ := i1 fun i h7 h8 => h i (by omega) h8
          refine ⟨rs', a1, fun i hi => ?_, fun i h7 h8 => ?_⟩
          · rw [a2 i (by omega)]
            exact if_neg (by omega)
          · by_cases e : i = j
            · rw [e, a2 _ (by omega)]
              exact if_pos rfl
            · exact a3 i (by omega) h8
        · by_cases e : i = j
          · rw [e]; exact q
          · exact h6 i (by omega) h8
      · rw [if_neg (by rw [nq_lt _ _ (by omega) (by omega)]; omega)]
        exact ⟨fun h => absurd (h j (Nat.le_refl _) (by omega)) q, fun _ => ⟨_, rfl⟩⟩
theorem k_rse (fu : Nat) (f : Nat → Int32) (m : Nat) (r : RS) (T k s n y : Int32) : J_X4_readStatements_b6 fu 800 f (m + 1) r (mkT T k s n) y =
    if (800 : Int32) ≤ y then (if k = 0 then some ((1 : Int32), r, mkT T k s n) else some ((0 : Int32), r, mkT T k s n)) else
    if k = 0 then (if k = 0 then some ((1 : Int32), r, mkT T k s n) else some ((0 : Int32), r, mkT T k s n)) else
    (J_X4_readStatement fu r (mkT T k s n) 800 f).bind fun z5 => if z5.1 = 0 then some ((0 : Int32), z5.2.1, z5.2.2) else (J_X6_step fu z5.2.2 800 f).bind fun z8 => J_X4_readStatements_b6 fu 800 f m z5.2.1 z8 (y + 1) := rfl
theorem m_b50_0 (fu : Nat) (v : Nat → Int32) (T er : Int32) (W : Nat → Int32) (x2 x3 x4 : Int32) (x5 : Int64) (x6 x7 y1 y2 : Int32) : J_X8_readSymbols_b50 fu v T er W x2 x3 x4 x5 x6 x7 (nI 0) y1 y2 = some (er, W, x2, x3, x4, x5, x6, x7, nI 0) := rfl
theorem m_b50_1 (fu : Nat) (v : Nat → Int32) (T er : Int32) (W : Nat → Int32) (x2 x3 x4 : Int32) (x5 : Int64) (x6 x7 y1 y2 : Int32) : J_X8_readSymbols_b50 fu v T er W x2 x3 x4 x5 x6 x7 (nI 1) y1 y2 = some (x3, W, x2, x3, x4, x5, x6, x7, nI 0) := rfl
theorem m_mark_3 (fu : Nat) (v : Nat → Int32) (T er x2 x3 : Int32) (x5 : Int64) (x6 x7 : Int32) : J_X8_mark fu v T er x2 x3 (nI 3) x5 x6 x7 (nI 1) = (J_X8_accepts fu v T er x2 x3 (nI 3) x5 x6 x7 (nI 1) (nI 1)).bind fun z3 => some (z3.1, z3.2.1, z3.2.2.1, z3.2.2.2.1, z3.2.2.2.2.1, z3.2.2.2.2.2.1, z3.2.2.2.2.2.2.1, z3.2.2.2.2.2.2.2) := rfl
theorem m_mark_n (fu : Nat) (v : Nat → Int32) (T er x2 x3 : Int32) (k : Nat) (hk : k ≤ 4) (h3 : k ≠ 3) (x5 : Int64) (x6 x7 : Int32) : J_X8_mark fu v T er x2 x3 (nI k) x5 x6 x7 (nI 1) = some (x3, x2, x3, nI k, x5, x6, x7, nI 0) := by
  unfold J_X8_mark J_X8_mark_b20 J_X8_mark_b21
  rw [if_neg (show ¬ (nI 1 = 0) by decide), if_neg (by rw [l_3, nq_eq _ _ (by omega) (by omega)]; exact h3), m_acc_bad0]
  rfl
theorem m_mark_0 (fu : Nat) (v : Nat → Int32) (T er x2 x3 x4 : Int32) (x5 : Int64) (x6 x7 : Int32) : J_X8_mark fu v T er x2 x3 x4 x5 x6 x7 (nI 0) = some (er, x2, x3, x4, x5, x6, x7, nI 0) := rfl
theorem st_b (fu : Nat) (hf : 20000 ≤ fu) {f v : Nat → Int32} {b : Nat → Nat} {T : Nat} (hT : T ≤ 800) (hf1 : ∀ i, i < T → b i < 256 ∧ f i = nI (b i)) (hv : ∀ i, i < T → b i < 256 ∧ v i = sb (b i)) {g : Nat → Nat} (hg : GOOD g) (h60 : g 6 = 0) (er th : Int32) (A kp : Nat → Int32) (un dc wd po li : Int32) :
    ∀ q e, T - e < q → e ≤ T → ∀ k s n, TK b T e k s n → ∀ (c : Nat) (sy : Nat → Nat) (rs : Nat → Int32), c ≤ 400 → (∀ i, i < c → rs i = nI (sy i) ∧ sy i < g 0) → ∀ word lt nm, TKM b k s n word lt nm → ∀ m1 m2 y, T - e < m1 → T - e + 1 < m2 → y ≤ e →
    (∃ (c' : Nat) (sy' : Nat → Nat) (rs' : Nat → Int32) (t' : TS) (x2 x3 x4 : Int32) (x5 : Int64) (x6 x7 : Int32), c' ≤ 400 ∧ (∀ i, i < c' → rs' i = nI (sy' i) ∧ sy' i < g 0) ∧
      J_X4_readStatements_b6 fu 800 f m1 (mkR (nI (g 0)) wd po li rs (nI c)) (mkT (nI T) (nI k) (nI s) (nI n)) (nI y) = some (nI 1, mkR (nI (g 0)) wd po li rs' (nI c'), t') ∧
      J_X8_load_b38 fu v m2 (nI T) er th (nW (gEl g sy c)) A kp un dc (nI n) (nI s) (nI k) word lt nm (nI 1) = J_X8_load_b59 fu v (nI T) er th (nW (gEl g sy' c')) A kp un dc x2 x3 x4 x5 x6 x7 (nI 1)) ∨
    (∃ (r' : RS) (t' : TS) (p : Nat) (gg : Nat → Nat) (x2 x3 x4 : Int32) (x5 : Int64) (x6 x7 : Int32),
      J_X4_readStatements_b6 fu 800 f m1 (mkR (nI (g 0)) wd po li rs (nI c)) (mkT (nI T) (nI k) (nI s) (nI n)) (nI y) = some (nI 0, r', t') ∧ t_start t' = nI p ∧
      J_X8_load_b38 fu v m2 (nI T) er th (nW (gEl g sy c)) A kp un dc (nI n) (nI s) (nI k) word lt nm (nI 1) = J_X8_load_b59 fu v (nI T) (nI p) th (nW gg) A kp un dc x2 x3 x4 x5 x6 x7 (nI 0)) := by
  have hs := SET_of hg.1
  unfold SET at hs
  intro q
  induction q with
  | zero => intro e h; omega
  | succ q ih =>
    intro e hq he k s n htk c sy rs hc hrs word lt nm hm m1 m2 y hm1 hm2 hy
    have hn := TK_n htk
    obtain ⟨m1, rfl⟩ : ∃ m, m1 = m + 1 := ⟨m1 - 1, by omega⟩
    obtain ⟨m2, rfl⟩ : ∃ m, m2 = m + 2 := ⟨m2 - 2, by omega⟩
    have hge := gEl_ok hg sy c (fun i hi => (hrs i hi).2) (by omega) c (Nat.le_refl _)
    rw [h60, Nat.zero_add] at hge
    rw [k_rse, J_X8_load_b38, if_neg (show ¬ (nI 1 = 0) by decide)]
    by_cases k0 : k = 0
    · subst k0
      refine .inl ⟨c, sy, rs, mkT (nI T) (nI 0) (nI s) (nI n), nI n, nI s, nI 0, word, lt, nm, hc, hrs, ?_, ?_⟩
      · rw [if_pos n00, if_pos n00]
        by_cases d : (800 : Int32) ≤ nI y
        · rw [if_pos d]; rfl
        · rw [if_neg d]; rfl
      · rw [if_pos n00]
    · have hsT : s < T := by
        rcases Nat.lt_or_ge s T with h | h
        · exact h
        · exact absurd (hn.2.2.2.2.2.1.mpr (by omega)) k0
      have hk0 : ¬ (nI k = (0 : Int32)) := by rw [l_0, nq_eq _ _ (by omega) (by omega)]; exact k0
      rw [if_neg (show ¬ ((800 : Int32) ≤ nI y) by rw [l_800, nq_le _ _ (by omega) (by omega)]; omega), if_neg hk0, if_neg hk0]
      unfold J_X4_readStatement J_X8_readSymbols
      have u1 := k_isWord fu hf hT hf1 htk 4 (by omega)
      have u2 := m_isKey htk word lt nm hm 4 (by omega) (21253668243 : Int64) (by decide +kernel)
      by_cases cw : k = 1 ∧ isW b s n (tx 4)
      · rw [u1.1 cw, u2.1 cw]
        simp only [Option.bind_some]
        rw [if_neg (show ¬ (nI 1 = 0) by decide), m_acc_ok fu v _ _ _ _ _ _ _ _ 1 rfl]
        have hsn := hn.2.2.2.2.2.2 hsT
        obtain ⟨k2, s2, n2, htk2⟩ := tk_ex b T n hn.2.2.2.1
        have hn2 := TK_n htk2
        obtain ⟨w2, l2, nm2, f1, f2⟩ := m_next fu hf hT hv htk2 (nI s) (nI k) word lt nm
        rw [k_step fu hf hT hf1 htk2 (nI k) (nI s), f1]
        simp only [Option.bind_some]
        rw [if_neg (show ¬ (nI 1 = 0) by decide)]
        have hrl : J_X4_readLetters fu (mkR (nI (g 0)) wd po li rs (nI c)) (mkT (nI T) (nI k2) (nI s2) (nI n2)) 800 f = if nI k2 = (1 : Int32) then (if nI c + (nI n2 - nI s2) ≤ (400 : Int32) then J_X4_readLetters_b35 fu (mkT (nI T) (nI k2) (nI s2) (nI n2)) 800 f fu (mkR (nI (g 0)) wd po li rs (nI c)) (nI s2) else some ((0 : Int32), mkR (nI (g 0)) wd po li rs (nI c))) else some ((0 : Int32), mkR (nI (g 0)) wd po li rs (nI c)) := rfl
        rw [hrl]
        by_cases k21 : k2 = 1
        · subst k21
          obtain ⟨q1, q2, q3, q4⟩ := TK_1 htk2
          obtain ⟨_, hl2⟩ := f2.1 rfl
          rw [if_pos (show nI 1 = (1 : Int32) from rfl), if_pos (show nI 1 = (1 : Int32) from rfl), hl2, nq_sub _ _ (by omega), nq_add]
          have hfit : J_X8_fits fu v (nW (gEl g sy c)) (nI s2) (nI (n2 - s2)) = if nI (c + (n2 - s2)) ≤ (400 : Int32) then (J_X8_areLetters fu v (nW (gEl g sy c)) (nI s2) (nI (n2 - s2))).bind fun z4 => if z4 &&& 1 = z4 then some z4 else none else some (0 : Int32) := by
            unfold J_X8_fits
            rw [l_6, rd_W 1726 _ 6 (by omega) (by omega), hge.2.1]
            simp only [Option.bind_some, nq_add]
          rw [hfit]
          by_cases c4 : c + (n2 - s2) ≤ 400
          · have c4' : nI (c + (n2 - s2)) ≤ (400 : Int32) := by rw [l_400, nq_le _ _ (by omega) (by omega)]; exact c4
            rw [if_pos c4', if_pos c4']
            have hvv : ∀ j, j < n2 - s2 → b (s2 + j) < 256 ∧ v (s2 + j) = sb (b (s2 + j)) := fun j hj => hv (s2 + j) (by omega)
            have ea := m_areLetters fu hf v (gEl g sy c) (by omega) (by omega) b s2 (n2 - s2) (by omega) hvv
            rw [hge.2.2] at ea
            have ek := k_rl_b fu hT hf1 q3 q4 (g 0) (by omega) wd po li (nI 1) (nI s2) c c4 fu s2 rs (Nat.le_refl _) (by omega) (by omega)
            rw [Nat.sub_self, Nat.add_zero] at ek
            by_cases cl : ∀ i, s2 ≤ i → i < n2 → b i < 97 + g 0
            · have cl' : ∀ j, j < n2 - s2 → LT b (g 0) (s2 + j) := fun j hj => ⟨(q4 (s2 + j) (by omega) (by omega)).1, cl (s2 + j) (by omega) (by omega)⟩
              obtain ⟨rs', r1, r2, r3⟩ := ek.1 cl
              rw [r1, ea.1 cl']
              simp only [Option.bind_some]
              rw [if_neg (show ¬ (nI 1 = 0) by decide), if_pos (and1 1 (by omega))]
              simp only [Option.bind_some]
              rw [if_neg (show ¬ (nI 1 = 0) by decide)]
              unfold J_X8_readSymbols_b51
              rw [show (1 : Int32) = nI 1 from rfl, m_acc_ok fu v _ _ _ _ _ _ _ _ 1 rfl]
              obtain ⟨k3, s3, n3, htk3⟩ := tk_ex b T n2 hn2.2.2.2.1
              have hn3 := TK_n htk3
              obtain ⟨w3, l3, nm3, f3, f4⟩ := m_next fu hf hT hv htk3 (nI s2) (nI 1) w2 (nI (n2 - s2)) nm2
              rw [k_step fu hf hT hf1 htk3 (nI 1) (nI s2), f3]
              simp only [Option.bind_some]
              by_cases k33 : k3 = 3
              · subst k33
                have hs3 : s3 < T := by
                  rcases Nat.lt_or_ge s3 T with h | h
                  · exact h
                  · have := hn3.2.2.2.2.2.1.mpr (by omega); omega
                have hsn3 := hn3.2.2.2.2.2.2 hs3
                rw [if_pos (show t_kind (mkT (nI T) (nI 3) (nI s3) (nI n3)) = (3 : Int32) from rfl)]
                simp only [Option.bind_some]
                rw [m_mark_3, m_acc_ok fu v _ _ _ _ _ _ _ _ 1 rfl]
                obtain ⟨k4, s4, n4, htk4⟩ := tk_ex b T n3 hn3.2.2.2.1
                obtain ⟨w4, l4, nm4, f5, f6⟩ := m_next fu hf hT hv htk4 (nI s3) (nI 3) w3 l3 nm3
                rw [if_neg (show ¬ (nI 1 = 0) by decide), k_step fu hf hT hf1 htk4 (nI 3) (nI s3), f5]
                simp only [Option.bind_some]
                rw [if_neg (show ¬ (nI 1 = 0) by decide)]
                have cl'' : ∀ j, j < n2 - s2 → LT b (gEl g sy c 0) (s2 + j) := by rw [hge.2.2]; exact cl'
                rw [m_encodesTape fu hf hge.1 v b s2 (n2 - s2) cl'' (by rw [hge.2.1]; exact c4) (by omega) hvv, gEt_gEl]
                simp only [Option.bind_some, nq_add]
                refine ih n3 (by omega) hn3.2.2.2.1 k4 s4 n4 htk4 (c + (n2 - s2)) (syX sy c b s2) rs' c4 (fun i hi => ?_) w4 l4 nm4 f6 m1 (m2 + 1) (y + 1) (by omega) (by omega) (by omega)
                show rs' i = nI (if i < c then sy i else b (s2 + (i - c)) - 97) ∧ (if i < c then sy i else b (s2 + (i - c)) - 97) < g 0
                by_cases d : i < c
                · rw [if_pos d, r2 i d]
                  exact hrs i d
                · have a1 := r3 (s2 + (i - c)) (by omega) (by omega)
                  have a2 := cl (s2 + (i - c)) (by omega) (by omega)
                  have a3 := (q4 (s2 + (i - c)) (by omega) (by omega)).1
                  rw [show c + (s2 + (i - c) - s2) = i by omega] at a1
                  rw [if_neg d]
                  exact ⟨a1, by omega⟩
              · rw [if_neg (show ¬ (t_kind (mkT (nI T) (nI k3) (nI s3) (nI n3)) = (3 : Int32)) from by
                  show ¬ (nI k3 = (3 : Int32))
                  rw [l_3, nq_eq _ _ (by omega) (by omega)]; exact k33)]
                simp only [Option.bind_some]
                rw [if_pos trivial, m_mark_n fu v _ _ _ _ k3 hn3.2.2.2.2.1 k33]
                simp only [Option.bind_some]
                rw [if_pos n00]
                simp only [Option.bind_some]
                rw [J_X8_load_b38, if_pos n00]
                exact .inr ⟨_, _, s3, _, _, _, _, _, _, _, rfl, rfl, rfl⟩
            · have cl' : ¬ ∀ j, j < n2 - s2 → LT b (g 0) (s2 + j) := fun h => cl fun i h1 h2 => by
                have := h (i - s2) (by omega)
                rw [show s2 + (i - s2) = i by omega] at this
                exact this.2
              obtain ⟨r', r1⟩ := ek.2 cl
              rw [r1, ea.2 cl']
              simp only [Option.bind_some]
              rw [if_pos n00, if_pos (and1 0 (by omega))]
              simp only [Option.bind_some]
              rw [if_pos n00, m_b50_1]
              simp only [Option.bind_some]
              rw [if_pos trivial, J_X8_load_b38, if_pos n00]
              exact .inr ⟨_, _, s2, _, _, _, _, _, _, _, rfl, rfl, rfl⟩
          · have c4' : ¬ (nI (c + (n2 - s2)) ≤ (400 : Int32)) := by rw [l_400, nq_le _ _ (by omega) (by omega)]; exact c4
            rw [if_neg c4', if_neg c4']
            simp only [Option.bind_some]
            rw [if_pos trivial, if_pos trivial, m_b50_1]
            simp only [Option.bind_some]
            rw [if_pos trivial, J_X8_load_b38, if_pos n00]
            exact .inr ⟨_, _, s2, _, _, _, _, _, _, _, rfl, rfl, rfl⟩
        · have hk2 : ¬ (nI k2 = (1 : Int32)) := by rw [l_1, nq_eq _ _ (by omega) (by omega)]; exact k21
          rw [if_neg hk2, if_neg hk2, m_b50_1]
          simp only [Option.bind_some]
          rw [if_pos trivial, J_X8_load_b38]
          simp only [Option.bind_some]
          rw [if_pos trivial, if_pos n00]
          exact .inr ⟨_, _, s2, _, _, _, _, _, _, _, rfl, rfl, rfl⟩
      · rw [u1.2 cw, u2.2 cw]
        simp only [Option.bind_some]
        rw [if_pos n00, m_acc_bad]
        simp only [Option.bind_some]
        rw [if_pos trivial, if_pos n00, m_b50_0]
        simp only [Option.bind_some]
        rw [J_X8_load_b38, if_pos n00]
        exact .inr ⟨_, _, s, _, _, _, _, _, _, _, rfl, rfl, rfl⟩
