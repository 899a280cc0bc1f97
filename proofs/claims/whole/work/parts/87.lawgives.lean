/-! what the law's start gives -/
theorem w1_at {b : Nat} {s : State} (hts : ∀ w ∈ lw_tbl, w.before #[Value.ref b] s = true) {i : Nat} {w : Cond} (h : w1L[i]? = some w) : w.before #[Value.ref b] s = true := hts w (w1_in w (List.mem_of_getElem? h))
theorem s_str {own : String} {k : Nat} {bs : List Int32} {args : Array Value} {s : State} {A : Nat → Prop} (hn : bs.length < 100) (h : ∀ w ∈ sC own k bs, w.before args s = true) (hA : ∀ a : Nat, a < s.heap.size → ¬ A a) :
    ∃ a v : Nat, (Term.string own k).eval args s none [] s = some (.ref a) ∧ va_O "java/lang/String" a A s s.heap ∧ va_OF "java/lang/String" "coder" "B" (.int 0) a A s s.heap ∧ va_OF "java/lang/String" "value" "[B" (.ref v) a A s s.heap ∧ va_T .byte v bs.length (fun j => .int (bs.getD j 0)) A s s.heap := by
  have hm : ∀ j, j < bs.length → Cond.eq (.elem (.field (.string own k) "java/lang/String" "value" "[B") (.int (Int32.ofNat j))) (.int (bs.getD j 0)) ∈ sC own k bs := fun j hj => List.mem_append_right _ (List.mem_map.mpr ⟨j, List.mem_range.mpr hj, rfl⟩)
  have h0 : ∀ i : Nat, i < 1 → i = 0 := fun i hi => by omega
  obtain ⟨adK, adV, hv, he⟩ := vk_Sof (args := args) (s := s) (N := 1) (tm := fun _ => Term.string own k) (len := [bs.length]) (byt := [bs]) (A := A)
    (fun i hi => by rw [h0 i hi]; show bs.length < 2 ^ 31; omega)
    (fun i hi => h _ (List.mem_append_left _ (List.mem_of_getElem? (i := 0) rfl)))
    (fun i hi => h _ (List.mem_append_left _ (List.mem_of_getElem? (i := 1) rfl)))
    (fun i hi => h _ (List.mem_append_left _ (List.mem_of_getElem? (i := 2) rfl)))
    (fun i hi => by rw [h0 i hi]; exact h _ (List.mem_append_left _ (List.mem_of_getElem? (i := 3) rfl)))
    (fun i hi j hj => by rw [h0 i hi] at hj ⊢; exact h _ (hm j hj))
    (fun i j hi hj hij => absurd ((h0 i hi).trans (h0 j hj).symm) hij) hA
  have h1 := hv.1 0 (by omega)
  exact ⟨adK 0, adV 0, he 0 (by omega), h1.1, h1.2.1, h1.2.2.1, h1.2.2.2⟩
theorem s_inj {a1 a2 v1 v2 : Nat} {b1 b2 : List Int32} {A : Nat → Prop} {s : State} (hl1 : b1.length < 100) (hl2 : b2.length < 100) (h1 : va_OF "java/lang/String" "value" "[B" (.ref v1) a1 A s s.heap) (h2 : va_OF "java/lang/String" "value" "[B" (.ref v2) a2 A s s.heap)
    (t1 : va_T .byte v1 b1.length (fun j => .int (b1.getD j 0)) A s s.heap) (t2 : va_T .byte v2 b2.length (fun j => .int (b2.getD j 0)) A s s.heap) (e : a1 = a2) : b1 = b2 := by
  subst e
  obtain ⟨cf, k, i, f, cell, f1, -, c1, -, s1, -⟩ := h1
  obtain ⟨cf', k', i', f', cell', f2, -, c2, -, s2, -⟩ := h2
  cases Option.some.inj (f1.symm.trans f2)
  cases Option.some.inj (c1.symm.trans c2)
  have hv : v1 = v2 := by
    have h9 := Option.some.inj (s1.symm.trans s2)
    cases h9
    rfl
  subst hv
  obtain ⟨d1, g1, -, -, -, n1, e1, -⟩ := t1
  obtain ⟨d2, g2, -, -, -, n2, e2, -⟩ := t2
  cases Option.some.inj (g1.symm.trans g2)
  have hn : b1.length = b2.length := nq_inj _ _ (by omega) (by omega) (n1.symm.trans n2)
  apply List.ext_getElem hn
  intro j q1 q2
  have q3 : Value.int (b1.getD j 0) = Value.int (b2.getD j 0) := Option.some.inj ((e1 j q1).symm.trans (e2 j q2))
  have q4 : b1.getD j 0 = b2.getD j 0 := by cases hb : b1.getD j 0; cases hb2 : b2.getD j 0; rw [hb, hb2] at q3; injection q3
  simpa [List.getD_eq_getElem?_getD, q1, q2] using q4
def evA (b : Nat) (s : State) (k : Nat) : Nat := match (Term.string RX7 k).eval #[Value.ref b] s none [] s with
  | some (.ref a) => a
  | _ => 0
set_option maxHeartbeats 4000000 in
set_option maxRecDepth 100000 in
theorem s_CE {b : Nat} {s : State} (hts : ∀ w ∈ lw_tbl, w.before #[Value.ref b] s = true) (hgv : (Jvm.Cond.and given_1 narrow_1).before #[Value.ref b] s = true) : ∃ K : KT, CE K (fun q => s.heap.size ≤ q) s s.heap := by
  have hs : ∀ c ∈ flatC narrow_1, c.before #[Value.ref b] s = true := fun c hc => flat_of_before _ hgv c (List.mem_append_right _ hc)
  have hn : ∀ {i : Nat} {w : Cond}, n1L[i]? = some w → w.before #[Value.ref b] s = true := fun h => hs _ (n1_in _ (List.mem_of_getElem? h))
  have hA : ∀ a : Nat, a < s.heap.size → ¬ (fun q : Nat => s.heap.size ≤ q) a := fun a h => Nat.not_le.mpr h
  obtain ⟨a0, v0, e0, p0, c0, w0, t0⟩ := s_str (own := RX7) (k := 351) (bs := bytT.getD 0 []) (by decide) (fun w h => hs w (sc_0 w h)) hA
  obtain ⟨a1, v1, e1, p1, c1, w1, t1⟩ := s_str (own := RX7) (k := 353) (bs := bytT.getD 1 []) (by decide) (fun w h => hs w (sc_1 w h)) hA
  obtain ⟨a2, v2, e2, p2, c2, w2, t2⟩ := s_str (own := RX7) (k := 355) (bs := bytT.getD 2 []) (by decide) (fun w h => hs w (sc_2 w h)) hA
  obtain ⟨a3, v3, e3, p3, c3, w3, t3⟩ := s_str (own := RX4) (k := 34) (bs := bytT.getD 3 []) (by decide) (fun w h => hs w (sc_3 w h)) hA
  obtain ⟨a4, v4, e4, p4, c4, w4, t4⟩ := s_str (own := RX4) (k := 74) (bs := bytT.getD 4 []) (by decide) (fun w h => hs w (sc_4 w h)) hA
  obtain ⟨a5, v5, e5, p5, c5, w5, t5⟩ := s_str (own := RX5) (k := 19) (bs := bytT.getD 5 []) (by decide) (fun w h => hs w (sc_5 w h)) hA
  obtain ⟨a6, v6, e6, p6, c6, w6, t6⟩ := s_str (own := RX5) (k := 40) (bs := bytT.getD 6 []) (by decide) (fun w h => hs w (sc_6 w h)) hA
  obtain ⟨a7, v7, e7, p7, c7, w7, t7⟩ := s_str (own := RX5) (k := 55) (bs := bytT.getD 7 []) (by decide) (fun w h => hs w (sc_7 w h)) hA
  obtain ⟨a8, v8, e8, p8, c8, w8, t8⟩ := s_str (own := RX5) (k := 60) (bs := bytT.getD 8 []) (by decide) (fun w h => hs w (sc_8 w h)) hA
  have hlen : ∀ i, i < 9 → lenT.getD i 0 = (bytT.getD i []).length := by decide
  have hsm : ∀ i, i < 9 → (bytT.getD i []).length < 100 := by decide
  have hall : ∀ i, i < 9 → va_O "java/lang/String" ([a0, a1, a2, a3, a4, a5, a6, a7, a8].getD i 0) (fun q => s.heap.size ≤ q) s s.heap ∧ va_OF "java/lang/String" "coder" "B" (.int 0) ([a0, a1, a2, a3, a4, a5, a6, a7, a8].getD i 0) (fun q => s.heap.size ≤ q) s s.heap ∧ va_OF "java/lang/String" "value" "[B" (.ref ([v0, v1, v2, v3, v4, v5, v6, v7, v8].getD i 0)) ([a0, a1, a2, a3, a4, a5, a6, a7, a8].getD i 0) (fun q => s.heap.size ≤ q) s s.heap ∧ va_T .byte ([v0, v1, v2, v3, v4, v5, v6, v7, v8].getD i 0) (bytT.getD i []).length (fun j => .int ((bytT.getD i []).getD j 0)) (fun q => s.heap.size ≤ q) s s.heap := by
    intro i hi
    rcases (show i = 0 ∨ i = 1 ∨ i = 2 ∨ i = 3 ∨ i = 4 ∨ i = 5 ∨ i = 6 ∨ i = 7 ∨ i = 8 by omega) with rfl | rfl | rfl | rfl | rfl | rfl | rfl | rfl | rfl
    · exact ⟨p0, c0, w0, t0⟩
    · exact ⟨p1, c1, w1, t1⟩
    · exact ⟨p2, c2, w2, t2⟩
    · exact ⟨p3, c3, w3, t3⟩
    · exact ⟨p4, c4, w4, t4⟩
    · exact ⟨p5, c5, w5, t5⟩
    · exact ⟨p6, c6, w6, t6⟩
    · exact ⟨p7, c7, w7, t7⟩
    · exact ⟨p8, c8, w8, t8⟩
  refine ⟨(fun i => [a0, a1, a2, a3, a4, a5, a6, a7, a8].getD i 0, fun i => [v0, v1, v2, v3, v4, v5, v6, v7, v8].getD i 0, fun k => evA b s k), ⟨fun i hi => ?_, fun i j hi hj e => ?_⟩, ?_, ?_, ?_, ?_, ?_, ?_, ?_⟩
  · rw [hlen i hi]
    exact hall i hi
  · have hh := s_inj (hsm i hi) (hsm j hj) (hall i hi).2.2.1 (hall j hj).2.2.1 (hall i hi).2.2.2 (hall j hj).2.2.2 e
    exact (show ∀ i, i < 9 → ∀ j, j < 9 → bytT.getD i [] = bytT.getD j [] → i = j by decide) i hi j hj hh
  · intro q hq
    refine vk_R.of (hts _ (st_in _ (List.mem_map.mpr ⟨q, hq, rfl⟩))) ?_
    simp only [strT, List.mem_cons, List.not_mem_nil, or_false] at hq
    rcases hq with rfl | rfl | rfl | rfl | rfl | rfl | rfl | rfl | rfl
    · exact e0
    · exact e1
    · exact e2
    · exact e3
    · exact e4
    · exact e5
    · exact e6
    · exact e7
    · exact e8
  · intro q hq
    refine vk_R.of (hts _ (sm_in _ (List.mem_map.mpr ⟨q, hq, rfl⟩))) ?_
    obtain ⟨a, cc, cA, kA, q1, -⟩ := Cond.exactly_spec (args := #[Value.ref b]) (first := s) (o := none) (s := s) (idx := []) (t := .string RX7 q.1) (cls := "java/lang/String") (hs _ (sx_in _ (List.mem_map.mpr ⟨q, hq, rfl⟩)))
    show (Term.string RX7 q.1).eval #[Value.ref b] s none [] s = some (.ref (evA b s q.1))
    unfold evA
    rw [q1]
  · exact va_Zof (w1_at hts (i := 3) rfl) (w1_at hts (i := 0) rfl) (va_eqt (hn (i := 0) rfl)) hA
  · exact va_Zqof (w1_at hts (i := 4) rfl) (w1_at hts (i := 1) rfl) (hn (i := 1) rfl) hA
  · exact vx_Zqof (w1_at hts (i := 5) rfl) (w1_at hts (i := 2) rfl) (hn (i := 2) rfl) hA
  · exact vx_Zqof (w1_at hts (i := 6) rfl) (w1_at hts (i := 2) rfl) (hn (i := 3) rfl) hA
  · exact fun w hw => va_Nw.of (dc_tab (List.all_eq_true.mp xbL_dc w hw)) (hts w (xb_in w hw))
theorem s_XN {b : Nat} {s : State} (hgv : (Jvm.Cond.and given_1 narrow_1).before #[Value.ref b] s = true) : XN s := fun E hE T hT hne =>
  va_Nc.of (flat_of_before _ hgv _ (List.mem_append_right _ (xn_in _ (List.mem_map.mpr ⟨(E, T), (show ∀ E ∈ exL, ∀ T ∈ exL, E ≠ T → (E, T) ∈ xnL by decide) E hE T hT hne, rfl⟩))))
theorem s_XE {b : Nat} {s : State} (hts : ∀ w ∈ lw_tbl, w.before #[Value.ref b] s = true) : XE s := fun E hE => va_Nw.of rfl (hts _ (xe_in _ (List.mem_map.mpr ⟨E, hE, rfl⟩)))
theorem s_NW {b : Nat} {s : State} (hts : ∀ w ∈ lw_tbl, w.before #[Value.ref b] s = true) : NW s := fun w hw => va_Nw.of (List.all_eq_true.mp nwL_ot w hw) (hts w (nw_in w hw))
theorem s_arr {args : Array Value} {s : State} {ty : FieldType} (h : (Cond.arrayClass ty).before args s = true) (hty : ∀ C, ty ≠ .object C) : ∃ cA : ClassId, ArrOfT s cA ty ∧ va_RA s cA ty := by
  obtain ⟨c, k, comp, h1, h2, h3⟩ := Cond.arrayClass_spec h
  refine ⟨c, fun n z => ⟨(fun q h => by cases h), k, h2, comp, h3⟩, ?_⟩
  cases ty <;> first | exact h1 | exact absurd rfl (hty _)
theorem s_cls {b : Nat} {s : State} (hts : ∀ w ∈ lw_tbl, w.before #[Value.ref b] s = true) : ∃ (dC : Nat → ClassId) (dI : Nat → Nat → Nat), ∀ (c : Nat) (q : vw_C), vwCl[c]? = some q → u_Kn s q.1 q.2.1 q.2.2 (dC c) (dI c) := by
  obtain ⟨c0, i0, h0⟩ := u_known (C := RX0) (T := TX0) (N := 4) (n := 4) hts (fun w h => wl_X0 w h) (w1_at hts (i := 12) rfl)
  obtain ⟨c1, i1, h1⟩ := u_known (C := RX1) (T := TX1) (N := 8) (n := 8) hts (fun w h => wl_X1 w h) (w1_at hts (i := 13) rfl)
  obtain ⟨c2, i2, h2⟩ := u_known (C := RX2) (T := TX2) (N := 14) (n := 14) hts (fun w h => wl_X2 w h) (w1_at hts (i := 14) rfl)
  obtain ⟨c3, i3, h3⟩ := u_known (C := RX3) (T := TX3) (N := 4) (n := 4) hts (fun w h => wl_X3 w h) (w1_at hts (i := 15) rfl)
  obtain ⟨c4, i4, h4⟩ := u_known (C := RX4) (T := TX4) (N := 6) (n := 6) hts (fun w h => wl_X4 w h) (w1_at hts (i := 16) rfl)
  obtain ⟨c5, i5, h5⟩ := u_known (C := RX5) (T := TX5) (N := 2) (n := 2) hts (fun w h => wl_X5 w h) (w1_at hts (i := 17) rfl)
  obtain ⟨c6, i6, h6⟩ := u_known (C := RX6) (T := TX6) (N := 5) (n := 5) hts (fun w h => wl_X6 w h) (w1_at hts (i := 18) rfl)
  obtain ⟨c7, i7, h7⟩ := u_known (C := RX7) (T := TX7) (N := 11) (n := 11) hts (fun w h => wl_X7 w h) (w1_at hts (i := 19) rfl)
  obtain ⟨c8, i8, h8⟩ := u_known (C := RX8) (T := TX8) (N := 27) (n := 27) hts (fun w h => wl_X8 w h) (w1_at hts (i := 20) rfl)
  refine ⟨fun k => [c0, c1, c2, c3, c4, c5, c6, c7, c8].getD k c0, fun k => [i0, i1, i2, i3, i4, i5, i6, i7, i8].getD k i0, ?_⟩
  intro k q hq
  have hk : k < 9 := (List.getElem?_eq_some_iff.mp hq).1
  rcases (show k = 0 ∨ k = 1 ∨ k = 2 ∨ k = 3 ∨ k = 4 ∨ k = 5 ∨ k = 6 ∨ k = 7 ∨ k = 8 by omega) with rfl | rfl | rfl | rfl | rfl | rfl | rfl | rfl | rfl
  · cases hq; exact h0
  · cases hq; exact h1
  · cases hq; exact h2
  · cases hq; exact h3
  · cases hq; exact h4
  · cases hq; exact h5
  · cases hq; exact h6
  · cases hq; exact h7
  · cases hq; exact h8
