/-! load, both sides -/
def ldE (fu : Nat) (v : Nat → Int32) (T er th : Int32) (W A kp : Nat → Int32) (un dc x2 x3 x4 : Int32) (x5 : Int64) (x6 x7 x8 : Int32) : Option (Int32 × Int32 × Int32 × Int32 × (Nat → Int32) × (Nat → Int32) × (Nat → Int32) × Int32 × Int32 × Int32 × Int32 × Int32 × Int64 × Int32 × Int32 × Int32) :=
  (J_X8_startsReading fu v T er x2 x3 x4 x5 x6 x7 x8).bind fun z4 =>
  (J_X8_readSettings fu v T z4.1 W z4.2.1 z4.2.2.1 z4.2.2.2.1 z4.2.2.2.2.1 z4.2.2.2.2.2.1 z4.2.2.2.2.2.2.1 z4.2.2.2.2.2.2.2).bind fun z6 =>
  (J_X8_starts z6.2.1).bind fun z8 =>
  J_X8_load_b38 fu v fu T z6.1 th z8 A kp un dc z6.2.2.1 z6.2.2.2.1 z6.2.2.2.2.1 z6.2.2.2.2.2.1 z6.2.2.2.2.2.2.1 z6.2.2.2.2.2.2.2.1 z6.2.2.2.2.2.2.2.2
def zF : Nat → Nat := fun _ => 0
theorem m_z_b (fu : Nat) (v : Nat → Int32) (T er th : Int32) (g : Nat → Nat) (A kp : Nat → Int32) (un dc x2 x3 x4 : Int32) (x5 : Int64) (x6 x7 x8 : Int32) : ∀ n k, k ≤ 1726 → 1726 < n + k →
    J_X8_load_b6 fu v n T er th (nW (nC g zF 0 0 k)) A kp un dc x2 x3 x4 x5 x6 x7 x8 (nI k) = ldE fu v T er th (nW (nC g zF 0 0 1726)) A kp un dc x2 x3 x4 x5 x6 x7 x8 := by
  intro n
  induction n with
  | zero => intro k h1 h2; omega
  | succ n ih =>
    intro k h1 h2
    rw [J_X8_load_b6]
    by_cases c : k = 1726
    · rw [if_pos (by rw [l_1726, nq_le _ _ (by omega) (by omega)]; omega), c]
      rfl
    · have e := nC_succ g zF 0 0 k
      rw [Nat.zero_add] at e
      rw [if_neg (by rw [l_1726, nq_le _ _ (by omega) (by omega)]; omega), show j_wr 1726 (nW (nC g zF 0 0 k)) (nI k) (0 : Int32) = some (nW (nS (nC g zF 0 0 k) k 0)) from wr_W 1726 _ k 0 (by omega) (by omega), show nS (nC g zF 0 0 k) k 0 = nC g zF 0 0 (k + 1) from e]
      simp only [Option.bind_some, l_1, nq_add]
      exact ih (k + 1) (by omega) (by omega)
theorem k_ld_b (fu : Nat) (hf : 20000 ≤ fu) {g : Nat → Nat} (hg : GOOD g) (h60 : g 6 = 0) (f : Nat → Int32) (sy : Nat → Nat) (rs : Nat → Int32) (c : Nat) (hc : c ≤ 400) (hs : ∀ i, i < c → rs i = nI (sy i) ∧ sy i < g 0) (z wd po li dl : Int32) (tt : TS) (hh : HS) : ∀ m i ee, i ≤ c → c < m + i → RE ee (gEl g sy i) →
    ∃ ee', J_X7_load_b97 fu f m (nI 0) (nI 4294967295) dl ee tt (mkR z wd po li rs (nI c)) hh (nI i) = ((J_X3_forget hh).bind fun z9 => some (Sum.inl (nI c), nI 0, nI 4294967295, (0 : Int32), ee', tt, mkR z wd po li rs (nI c), z9)) ∧ RE ee' (gEl g sy c) := by
  intro m
  induction m with
  | zero => intro i ee h1 h2; omega
  | succ m ih =>
    intro i ee h1 h2 he
    obtain ⟨a1, a2, a3⟩ := gEl_ok hg sy c (fun j hj => (hs j hj).2) (by omega) i h1
    have e : J_X7_load_b97 fu f (m + 1) (nI 0) (nI 4294967295) dl ee tt (mkR z wd po li rs (nI c)) hh (nI i) = if nI c ≤ nI i then ((J_X3_forget hh).bind fun z9 => some (Sum.inl (e_encodedLength ee), nI 0, nI 4294967295, (0 : Int32), ee, tt, mkR z wd po li rs (nI c), z9)) else (J_X7_at 400 rs (nI i)).bind fun z11 => (J_X2_takeSymbol fu ee z11).bind fun z13 => J_X7_load_b97 fu f m (nI 0) (nI 4294967295) dl z13.2 tt (mkR z wd po li rs (nI c)) hh (nI i + 1) := rfl
    rw [e]
    by_cases d : c ≤ i
    · have hi : i = c := by omega
      subst hi
      have hel : e_encodedLength ee = nI i := by
        obtain ⟨p, l, le, nw, od, en, wr, wi, rfl, _⟩ := he
        show nI (gEl g sy i 6) = nI i
        rw [a2, h60, Nat.zero_add]
      rw [if_pos (by rw [nq_le _ _ (by omega) (by omega)]; exact d), hel]
      exact ⟨ee, rfl, he⟩
    · obtain ⟨s1, s2⟩ := hs i (by omega)
      obtain ⟨e', b1, b2⟩ := k_take fu (by omega) he a1.1 (by omega) (show sy i < gEl g sy i 0 by omega)
      obtain ⟨ee', c1, c2⟩ := ih (i + 1) e' (by omega) (by omega) b2
      refine ⟨ee', ?_, c2⟩
      rw [if_neg (by rw [nq_le _ _ (by omega) (by omega)]; exact d), at_F 400 rs i (by omega) (by omega), s1]
      simp only [Option.bind_some]
      rw [b1]
      simp only [Option.bind_some, l_1, nq_add]
      exact c1
theorem t_load (fu : Nat) (hf : 20000 ≤ fu) (t : Int32) {ee : ES} {hh : HS} {g u : Nat → Nat} {m : Nat} {sl kp : Nat → Nat} (h : ST ee hh g u m sl kp) (a : Nat → Nat) {f v : Nat → Int32} {T : Nat} {b : Nat → Nat} (hT : TP f v T b) (er er' nd nd' : Int32) (tt : TS) (rr : RS) (y2 y3 y4 : Int32) (y5 : Int64) (y6 y7 y8 : Int32) :
    ∃ (g' a' : Nat → Nat) (tt' : TS) (rr' : RS) (x2 x3 x4 : Int32) (x5 : Int64) (x6 x7 x8 : Int32),
    (∃ w ee' hh' kp', J_X7_load fu (nI T) er nd f ee tt rr hh = some (.inl w, nI 0, nI 4294967295, nI 0, ee', tt', rr', hh') ∧
      J_X8_load fu v (nI T) er' t (nW g) (nW a) (nW kp) (nI m) nd' y2 y3 y4 y5 y6 y7 y8 = some (w, nI 0, nI 4294967295, nI 0, nW g', nW a', nW kp', nI 0, nI 0, x2, x3, x4, x5, x6, x7, x8) ∧ ST ee' hh' g' u 0 sl kp') ∨
    (∃ p, J_X7_load fu (nI T) er nd f ee tt rr hh = some (.inr "java/lang/IllegalArgumentException", nI 0, nI p, nd, ee, tt', rr', hh) ∧
      J_X8_load fu v (nI T) er' t (nW g) (nW a) (nW kp) (nI m) nd' y2 y3 y4 y5 y6 y7 y8 = some (nI 0, nI 0, nI p, nI 1, nW g', nW a', nW kp, nI m, nd', x2, x3, x4, x5, x6, x7, x8) ∧ ST ee hh g' u m sl kp) := by
  obtain ⟨he, hg, hh0⟩ := h
  obtain ⟨hT8, hb⟩ := hT
  have hv1 : ∀ k, k < T → b k < 256 ∧ f k = nI (b k) := fun k hk => ⟨(hb k hk).1, (hb k hk).2.1⟩
  have hv2 : ∀ k, k < T → b k < 256 ∧ v k = sb (b k) := fun k hk => ⟨(hb k hk).1, (hb k hk).2.2⟩
  obtain ⟨k, s, n, htk⟩ := tk_ex b T 0 (by omega)
  obtain ⟨w1, l1, m1, c1, c2⟩ := m_next fu hf hT8 hv2 htk y3 y4 y5 y6 y7
  have hm0 : J_X8_load fu v (nI T) er' t (nW g) (nW a) (nW kp) (nI m) nd' y2 y3 y4 y5 y6 y7 y8 = (J_X8_readSettings fu v (nI T) (nI 4294967295) (nW (nC g zF 0 0 1726)) (nI n) (nI s) (nI k) w1 l1 m1 (nI 1)).bind fun z6 => (J_X8_starts z6.2.1).bind fun z8 => J_X8_load_b38 fu v fu (nI T) z6.1 t z8 (nW (nC a g 0 0 1726)) (nW kp) (nI m) nd' z6.2.2.1 z6.2.2.2.1 z6.2.2.2.2.1 z6.2.2.2.2.2.1 z6.2.2.2.2.2.2.1 z6.2.2.2.2.2.2.2.1 z6.2.2.2.2.2.2.2.2 := by
    unfold J_X8_load
    rw [m_keepsAside fu hf]
    simp only [Option.bind_some]
    have e := m_z_b fu v (nI T) er' t g (nW (nC a g 0 0 1726)) (nW kp) (nI m) nd' y2 y3 y4 y5 y6 y7 y8 fu 0 (by omega) (by omega)
    rw [nC_zero] at e
    rw [show J_X8_load_b6 fu v fu (nI T) er' t (nW g) (nW (nC a g 0 0 1726)) (nW kp) (nI m) nd' y2 y3 y4 y5 y6 y7 y8 (0 : Int32) = _ from e]
    unfold ldE J_X8_startsReading
    rw [show J_X8_nextToken fu v (nI T) (0 : Int32) y3 y4 y5 y6 y7 = _ from c1]
    rfl
  have hk0 : J_X7_load fu (nI T) er nd f ee tt rr hh = (J_X4_readSetup fu rr (mkT (nI T) (nI 0) (nI 0) (nI 0)) 800 f).bind fun z3 => if z3.1 = 0 then some (Sum.inr "java/lang/IllegalArgumentException", (0 : Int32), (t_start z3.2.2), nd, ee, z3.2.2, z3.2.1, hh) else (J_X2_begin fu ee (r_alphabet z3.2.1) (r_width z3.2.1) (r_policy z3.2.1) (r_limit z3.2.1)).bind fun z6 => J_X7_load_b97 fu f fu (0 : Int32) (-1 : Int32) nd z6 z3.2.2 z3.2.1 hh (0 : Int32) := rfl
  rw [hm0, hk0]
  have fail : ∀ (gg : Nat → Nat) (p : Nat) (x2 x3 x4 : Int32) (x5 : Int64) (x6 x7 : Int32), J_X8_load_b59 fu v (nI T) (nI p) t (nW gg) (nW (nC a g 0 0 1726)) (nW kp) (nI m) nd' x2 x3 x4 x5 x6 x7 (nI 0) = some (nI 0, nI 0, nI p, nI 1, nW (nC gg (nC a g 0 0 1726) 0 0 1726), nW (nC a g 0 0 1726), nW kp, nI m, nd', x2, x3, x4, x5, x6, x7, nI 0) := by
    intro gg p x2 x3 x4 x5 x6 x7
    unfold J_X8_load_b59
    rw [if_pos n00, m_takesBack fu hf]
    rfl
  have hE : ∀ gg : Nat → Nat, E7 (nC gg (nC a g 0 0 1726) 0 0 1726) g := fun gg j hj => by
    rw [E7_ka gg (nC a g 0 0 1726) j hj]
    exact E7_ka a g j hj
  rcases set_b fu hf hT8 hv1 hv2 htk w1 l1 m1 c2 (nI 4294967295) (nC g zF 0 0 1726) rr with ⟨r', t', p, g', x2, x3, x4, x5, x6, x7, q1, q2, q3⟩ | ⟨z, wd, po, li, s6, n6, k7, s7, n7, w7, l7, m7, ⟨z1, z2, z3, z4, z5, z6, z7, z8⟩, hn6, htk7, hm7, q1, q2⟩
  · rw [q1, q3]
    simp only [Option.bind_some]
    rw [if_pos n00, q2, m_starts]
    simp only [Option.bind_some]
    obtain ⟨j, hj⟩ : ∃ j, fu = j + 1 := ⟨fu - 1, by omega⟩
    have hbb : ∀ j W, J_X8_load_b38 fu v (j + 1) (nI T) (nI p) t W (nW (nC a g 0 0 1726)) (nW kp) (nI m) nd' x2 x3 x4 x5 x6 x7 (nI 0) = J_X8_load_b59 fu v (nI T) (nI p) t W (nW (nC a g 0 0 1726)) (nW kp) (nI m) nd' x2 x3 x4 x5 x6 x7 (nI 0) := fun j W => by
      rw [J_X8_load_b38, if_pos n00]
    have hbf : ∀ W, J_X8_load_b38 fu v fu (nI T) (nI p) t W (nW (nC a g 0 0 1726)) (nW kp) (nI m) nd' x2 x3 x4 x5 x6 x7 (nI 0) = J_X8_load_b59 fu v (nI T) (nI p) t W (nW (nC a g 0 0 1726)) (nW kp) (nI m) nd' x2 x3 x4 x5 x6 x7 (nI 0) := fun W => by
      have := hbb j W
      rw [← hj] at this
      exact this
    obtain ⟨r1, r2⟩ := RE.E7 ⟨he, hg⟩ (hE (gSt g'))
    refine ⟨nC (gSt g') (nC a g 0 0 1726) 0 0 1726, nC a g 0 0 1726, t', r', x2, x3, x4, x5, x6, x7, nI 0, .inr ⟨p, rfl, ?_, r1, r2, hh0⟩⟩
    rw [hbf, fail]
  · rw [q1, q2]
    simp only [Option.bind_some]
    rw [m_starts]
    simp only [Option.bind_some]
    have hG : ∃ G, G = gSt (nS (nS (nS (nS (nC g zF 0 0 1726) 0 z) 1 wd) 2 po) 3 li) := ⟨_, rfl⟩
    obtain ⟨G, hGe⟩ := hG
    obtain ⟨e0, e1, e2, e3, e4, e5, e6, e7, e8, e9, e13⟩ := gSt_at (nS (nS (nS (nS (nC g zF 0 0 1726) 0 z) 1 wd) 2 po) 3 li)
    rw [← hGe] at e0 e1 e2 e3 e4 e5 e6 e7 e8 e9 e13 ⊢
    simp (disch := omega) only [nS_eq, nS_ne] at e0 e1 e2 e3 e4
    have hgG : GOOD G := GOOD_new (by unfold SET; rw [e0, e1, e2, e3]; exact ⟨z1, z2, z3, z4, z5, z6, z7, z8⟩) (by omega) e5 e6 e7 e8 e9 e13
    have hcl : J_X4_readStatements fu (mkR (nI z) (nI wd) (nI po) (nI li) (r_symbols rr) (nI 0)) (mkT (nI T) (nI 3) (nI s6) (nI n6)) 800 f = J_X4_readStatements_b6 fu 800 f fu (mkR (nI (G 0)) (nI wd) (nI po) (nI li) (r_symbols rr) (nI 0)) (mkT (nI T) (nI k7) (nI s7) (nI n7)) (nI 0) := by
      unfold J_X4_readStatements
      rw [k_step fu hf hT8 hv1 htk7 (nI 3) (nI s6), e0]
      rfl
    rw [hcl]
    have hst := st_b fu hf hT8 hv1 hv2 hgG e6 (nI 4294967295) t (nW (nC a g 0 0 1726)) (nW kp) (nI m) nd' (nI wd) (nI po) (nI li) (T + 1) n6 (by omega) hn6 k7 s7 n7 htk7 0 zF (r_symbols rr) (by omega) (fun i hi => absurd hi (Nat.not_lt_zero _)) w7 l7 m7 hm7 fu fu 0 (by omega) (by omega) (by omega)
    rw [show gEl G zF 0 = G from rfl] at hst
    rcases hst with ⟨c', sy', rs', t', x2, x3, x4, x5, x6, x7, p1, p2, p3, p4⟩ | ⟨r', t', p, gg, x2, x3, x4, x5, x6, x7, p1, p2, p3⟩
    · rw [p3, p4]
      simp only [Option.bind_some]
      rw [if_neg (show ¬ (nI 1 = 0) by decide)]
      simp only [Option.bind_some]
      obtain ⟨eb, b1, b2⟩ := k_begin fu (by omega) (RQ.EF he) (g := G) (by omega) (by omega) e5 e6 e7 e8 e9
      rw [e1, e2, e3] at b1
      obtain ⟨ee', d1, d2⟩ := k_ld_b fu hf hgG e6 f sy' rs' c' p1 p2 (nI (G 0)) (nI wd) (nI po) (nI li) nd t' hh fu 0 eb (by omega) (by omega) b2
      obtain ⟨hh', f1, f2⟩ := k_forget hh0 (nS (nS kp 0 0) 1 0) (by rw [nS_ne _ _ _ _ (by omega), nS_eq]) (by rw [nS_eq])
      obtain ⟨o1, o2, o3⟩ := gEl_ok hgG sy' c' (fun i hi => (p2 i hi).2) (by omega) c' (Nat.le_refl _)
      refine ⟨gEl G sy' c', nC a g 0 0 1726, t', mkR (nI (G 0)) (nI wd) (nI po) (nI li) rs' (nI c'), x2, x3, x4, x5, x6, x7, nI 1, .inl ⟨nI c', ee', hh', nS (nS kp 0 0) 1 0, ?_, ?_, d2, o1, f2⟩⟩
      · rw [if_neg (show ¬ ((1 : Int32) = 0) by decide)]
        show ((J_X2_begin fu ee (nI (G 0)) (nI wd) (nI po) (nI li)).bind fun z6 => J_X7_load_b97 fu f fu (nI 0) (-1 : Int32) nd z6 t' (mkR (nI (G 0)) (nI wd) (nI po) (nI li) rs' (nI c')) hh (nI 0)) = _
        rw [b1, neg1]
        simp only [Option.bind_some]
        rw [d1, f1]
        rfl
      · unfold J_X8_load_b59
        rw [if_neg (show ¬ (nI 1 = 0) by decide), show vp_nar .boolean (0 : Int32) = nI 0 from nar0, show j_wr 2 (nW kp) (0 : Int32) (nI 0) = some (nW (nS kp 0 0)) from wr_W 2 kp 0 0 (by omega) (by omega)]
        simp only [Option.bind_some]
        rw [show j_wr 2 (nW (nS kp 0 0)) (1 : Int32) (nI 0) = some (nW (nS (nS kp 0 0) 1 0)) from wr_W 2 _ 1 0 (by omega) (by omega)]
        simp only [Option.bind_some]
        rw [l_6, rd_W 1726 _ 6 (by omega) (by omega), o2, e6, Nat.zero_add]
        rfl
    · rw [p1, p3]
      simp only [Option.bind_some]
      rw [if_pos n00]
      simp only [Option.bind_some]
      obtain ⟨r1, r2⟩ := RE.E7 ⟨he, hg⟩ (hE gg)
      refine ⟨nC gg (nC a g 0 0 1726) 0 0 1726, nC a g 0 0 1726, t', r', x2, x3, x4, x5, x6, x7, nI 0, .inr ⟨p, ?_, fail gg p x2 x3 x4 x5 x6 x7, r1, r2, hh0⟩⟩
      rw [if_pos trivial, p2]
      rfl
