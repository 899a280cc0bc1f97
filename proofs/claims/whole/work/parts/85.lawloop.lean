/-! the law's loop -/
theorem and63 (x : Int32) : ∃ j, j < 64 ∧ x &&& 63 = nI j := by
  refine ⟨(x.toBitVec &&& 63#32).toNat, ?_, ?_⟩
  · rw [BitVec.toNat_and]
    exact Nat.lt_of_le_of_lt (Nat.and_le_right) (by decide)
  · apply Int32.toBitVec_inj.mp
    show x.toBitVec &&& 63#32 = BitVec.ofNat 32 _
    rw [BitVec.ofNat_toNat, BitVec.setWidth_eq]
theorem gt6 (L n : Nat) (hL : L ≤ 3072) (hn : n ≤ 4000) : (nI L - 6 < nI n) = (L < n + 6) := by
  by_cases h : 6 ≤ L
  · have h1 : nI L - 6 = nI (L - 6) := nq_sub L 6 h
    rw [h1, nq_lt _ _ (by omega) (by omega)]
    exact propext ⟨fun q => by omega, fun q => by omega⟩
  · have h2 : (nI L - 6).toInt < 0 := by
      rcases (show L = 0 ∨ L = 1 ∨ L = 2 ∨ L = 3 ∨ L = 4 ∨ L = 5 by omega) with rfl | rfl | rfl | rfl | rfl | rfl <;> decide
    rw [Int32.lt_iff_toInt_lt, nq_toInt n (by omega)]
    exact propext ⟨fun _ => by omega, fun _ => by omega⟩
theorem vp_inA (n j L : Nat) (h : n + j < L) (hL : L ≤ 3072) {x : Int32} (hx : x = nI j) : vp_in (nI n + x) L := by
  subst hx
  rw [nq_add]
  exact vp_inN (n + j) L h (by omega)
section LLOOP
variable {p : Program} {l : Launch} {e : Env} {s : State} {m : MethodId} {args : Array Value} {below : List Frame} {meth : Method} {c : Code} {Q : State → Prop}
variable {A0 : Nat → Prop} {K : KT} {dC : Nat → ClassId} {dI : Nat → Nat → Nat} {Z : AD} {b L : Nat} {xs : Nat → Int32} {fu : Nat}
set_option maxHeartbeats 4000000 in
set_option maxRecDepth 100000 in
theorem lc_step (C : LC p l s m args c A0 K dC dI Z b L xs) (hf : 20000 ≤ fu) (hL : L ≤ 3072) {n cells slots : Nat} (hn : n + 6 ≤ L) (hc1 : cells + 8 ≤ 601024) (hc2 : slots + 48 ≤ 7293034)
    (KK : LKK p l e s m args below meth c (cells + 8) (slots + 48) Q A0 dC dI Z b (nI n))
    {c0 : CS} {m0 : MS} {o : Nat → Int64} {H : Heap} {locs : List Loc} {ls : Array Slot} (hR : REL c0 m0) (hP : va_P (dC, dI) vwCl (LW Z c0 m0 o) H) (hD : va_D A0 (LW Z c0 m0 o)) (hS : va_S A0 s.heap H locs) (hl : lv_has ls 9 [(0, .ref b), (1, .ref (Z.ca 0)), (2, .ref (Z.ma 0)), (3, .ref Z.q), (4, .int (nI n))]) {j : Nat} (hj : j < 64) :
    W p l e room_1 s m args below meth c H locs cells slots Q (F0 m 40 ls [.int (nI j)]) := by
  have hcl : cells + 8 ≤ room_1.cells ∧ slots + 48 ≤ room_1.slots := ⟨hc1, hc2⟩
  have hi1 : vp_in (nI n + 1) L := vp_inA n 1 L (by omega) hL rfl
  have hi2 : vp_in (nI n + 2) L := vp_inA n 2 L (by omega) hL rfl
  have hi3 : vp_in (nI n + 3) L := vp_inA n 3 L (by omega) hL rfl
  have hi4 : vp_in (nI n + 4) L := vp_inA n 4 L (by omega) hL rfl
  have hi5 : vp_in (nI n + 5) L := vp_inA n 5 L (by omega) hL rfl
  rcases (show j = 0 ∨ j = 1 ∨ j = 2 ∨ j = 3 ∨ j = 4 ∨ j = 5 ∨ j = 6 ∨ j = 7 ∨ j = 8 ∨ j = 9 ∨ j = 10 ∨ j = 11 ∨ j = 12 ∨ j = 13 ∨ j = 14 ∨ j = 15 ∨ j = 16 ∨ j = 17 ∨ j = 18 ∨ j = 19 ∨ j = 20 ∨ j = 21 ∨ j = 22 ∨ j = 23 ∨ j = 24 ∨ j = 25 ∨ j = 26 ∨ j = 27 ∨ j = 28 ∨ j = 29 ∨ j = 30 ∨ j = 31 ∨ j = 32 ∨ j = 33 ∨ j = 34 ∨ j = 35 ∨ j = 36 ∨ j = 37 ∨ j = 38 ∨ j = 39 ∨ j = 40 ∨ j = 41 ∨ j = 42 ∨ j = 43 ∨ j = 44 ∨ j = 45 ∨ j = 46 ∨ j = 47 ∨ j = 48 ∨ j = 49 ∨ j = 50 ∨ j = 51 ∨ j = 52 ∨ j = 53 ∨ j = 54 ∨ j = 55 ∨ j = 56 ∨ j = 57 ∨ j = 58 ∨ j = 59 ∨ j = 60 ∨ j = 61 ∨ j = 62 ∨ j = 63 by omega) with rfl | rfl | rfl | rfl | rfl | rfl | rfl | rfl | rfl | rfl | rfl | rfl | rfl | rfl | rfl | rfl | rfl | rfl | rfl | rfl | rfl | rfl | rfl | rfl | rfl | rfl | rfl | rfl | rfl | rfl | rfl | rfl | rfl | rfl | rfl | rfl | rfl | rfl | rfl | rfl | rfl | rfl | rfl | rfl | rfl | rfl | rfl | rfl | rfl | rfl | rfl | rfl | rfl | rfl | rfl | rfl | rfl | rfl | rfl | rfl | rfl | rfl | rfl | rfl
  · exact lv_tableIn (off := 256) (tgt := 296) C.hx C.hb dL_law_40 (by decide) (by decide) (by decide) (by decide) (lc_0 C hf hR hP hD hS hl hi1 hi2 hi3 hi4 hi5 hcl KK)
  · exact lv_tableIn (off := 360) (tgt := 400) C.hx C.hb dL_law_40 (by decide) (by decide) (by decide) (by decide) (lc_1 C hf hR hP hD hS hl hi1 hcl KK)
  · exact lv_tableIn (off := 416) (tgt := 456) C.hx C.hb dL_law_40 (by decide) (by decide) (by decide) (by decide) (lc_2 C hf hR hP hD hS hl hcl KK)
  · exact lv_tableIn (off := 460) (tgt := 500) C.hx C.hb dL_law_40 (by decide) (by decide) (by decide) (by decide) (lc_3 C hf hR hP hD hS hl hcl KK)
  · exact lv_tableIn (off := 504) (tgt := 544) C.hx C.hb dL_law_40 (by decide) (by decide) (by decide) (by decide) (lc_4 C hf hR hP hD hS hl hcl KK)
  · exact lv_tableIn (off := 517) (tgt := 557) C.hx C.hb dL_law_40 (by decide) (by decide) (by decide) (by decide) (lc_5 C hf hR hP hD hS hl hi1 hcl KK)
  · exact lv_tableIn (off := 573) (tgt := 613) C.hx C.hb dL_law_40 (by decide) (by decide) (by decide) (by decide) (lc_6 C hf hR hP hD hS hl hcl KK)
  · exact lv_tableIn (off := 617) (tgt := 657) C.hx C.hb dL_law_40 (by decide) (by decide) (by decide) (by decide) (lc_7 C hf hR hP hD hS hl hcl KK)
  · exact lv_tableIn (off := 630) (tgt := 670) C.hx C.hb dL_law_40 (by decide) (by decide) (by decide) (by decide) (lc_8 C hf hR hP hD hS hl hcl KK)
  · exact lv_tableIn (off := 643) (tgt := 683) C.hx C.hb dL_law_40 (by decide) (by decide) (by decide) (by decide) (lc_9 C hf hR hP hD hS hl hi1 hcl KK)
  · exact lv_tableIn (off := 699) (tgt := 739) C.hx C.hb dL_law_40 (by decide) (by decide) (by decide) (by decide) (lc_10 C hf hR hP hD hS hl hi1 hcl KK)
  · exact lv_tableIn (off := 755) (tgt := 795) C.hx C.hb dL_law_40 (by decide) (by decide) (by decide) (by decide) (lc_11 C hf hR hP hD hS hl hi1 hcl KK)
  · exact lv_tableIn (off := 791) (tgt := 831) C.hx C.hb dL_law_40 (by decide) (by decide) (by decide) (by decide) (lc_12 C hf hR hP hD hS hl hi1 hcl KK)
  · exact lv_tableIn (off := 847) (tgt := 887) C.hx C.hb dL_law_40 (by decide) (by decide) (by decide) (by decide) (lc_13 C hf hR hP hD hS hl hcl KK)
  · exact lv_tableIn (off := 891) (tgt := 931) C.hx C.hb dL_law_40 (by decide) (by decide) (by decide) (by decide) (lc_14 C hf hR hP hD hS hl hcl KK)
  · exact lv_tableIn (off := 904) (tgt := 944) C.hx C.hb dL_law_40 (by decide) (by decide) (by decide) (by decide) (lc_15 C hf hR hP hD hS hl hcl KK)
  · exact lv_tableIn (off := 917) (tgt := 957) C.hx C.hb dL_law_40 (by decide) (by decide) (by decide) (by decide) (lc_16 C hf hR hP hD hS hl hcl KK)
  · exact lv_tableIn (off := 930) (tgt := 970) C.hx C.hb dL_law_40 (by decide) (by decide) (by decide) (by decide) (lc_17 C hf hR hP hD hS hl hcl KK)
  · exact lv_tableIn (off := 943) (tgt := 983) C.hx C.hb dL_law_40 (by decide) (by decide) (by decide) (by decide) (lc_18 C hf hR hP hD hS hl hcl KK)
  · exact lv_tableIn (off := 956) (tgt := 996) C.hx C.hb dL_law_40 (by decide) (by decide) (by decide) (by decide) (lc_19 C hf hR hP hD hS hl hcl KK)
  · exact lv_tableIn (off := 969) (tgt := 1009) C.hx C.hb dL_law_40 (by decide) (by decide) (by decide) (by decide) (lc_20 C hf hR hP hD hS hl hcl KK)
  · exact lv_tableIn (off := 982) (tgt := 1022) C.hx C.hb dL_law_40 (by decide) (by decide) (by decide) (by decide) (lc_21 C hf hR hP hD hS hl hcl KK)
  · exact lv_tableIn (off := 995) (tgt := 1035) C.hx C.hb dL_law_40 (by decide) (by decide) (by decide) (by decide) (lc_22 C hf hR hP hD hS hl hcl KK)
  · exact lv_tableIn (off := 1008) (tgt := 1048) C.hx C.hb dL_law_40 (by decide) (by decide) (by decide) (by decide) (lc_23 C hf hR hP hD hS hl hcl KK)
  · exact lv_tableIn (off := 1021) (tgt := 1061) C.hx C.hb dL_law_40 (by decide) (by decide) (by decide) (by decide) (lc_24 C hf hR hP hD hS hl hi1 hcl KK)
  · exact lv_tableIn (off := 1077) (tgt := 1117) C.hx C.hb dL_law_40 (by decide) (by decide) (by decide) (by decide) (lc_25 C hf hR hP hD hS hl hi1 hi2 hcl KK)
  · exact lv_tableIn (off := 1145) (tgt := 1185) C.hx C.hb dL_law_40 (by decide) (by decide) (by decide) (by decide) (lc_26 C hf hR hP hD hS hl hi1 hcl KK)
  · exact lv_tableIn (off := 1201) (tgt := 1241) C.hx C.hb dL_law_40 (by decide) (by decide) (by decide) (by decide) (lc_27 C hf hR hP hD hS hl hi1 hi2 hcl KK)
  · exact lv_tableIn (off := 1269) (tgt := 1309) C.hx C.hb dL_law_40 (by decide) (by decide) (by decide) (by decide) (lc_28 C hf hR hP hD hS hl hi1 hcl KK)
  · exact lv_tableIn (off := 1325) (tgt := 1365) C.hx C.hb dL_law_40 (by decide) (by decide) (by decide) (by decide) (lc_29 C hf hR hP hD hS hl hcl KK)
  · exact lv_tableIn (off := 1338) (tgt := 1378) C.hx C.hb dL_law_40 (by decide) (by decide) (by decide) (by decide) (lc_30 C hf hR hP hD hS hl hi1 hcl KK)
  · exact lv_tableIn (off := 1394) (tgt := 1434) C.hx C.hb dL_law_40 (by decide) (by decide) (by decide) (by decide) (lc_31 C hf hR hP hD hS hl hcl KK)
  · exact lv_tableIn (off := 1438) (tgt := 1478) C.hx C.hb dL_law_40 (by decide) (by decide) (by decide) (by decide) (lc_32 C hf hR hP hD hS hl hcl KK)
  · exact lv_tableIn (off := 1451) (tgt := 1491) C.hx C.hb dL_law_40 (by decide) (by decide) (by decide) (by decide) (lc_33 C hf hR hP hD hS hl hcl KK)
  · exact lv_tableIn (off := 1495) (tgt := 1535) C.hx C.hb dL_law_40 (by decide) (by decide) (by decide) (by decide) (lc_34 C hf hR hP hD hS hl hi1 hcl KK)
  · exact lv_tableIn (off := 1551) (tgt := 1591) C.hx C.hb dL_law_40 (by decide) (by decide) (by decide) (by decide) (lc_35 C hf hR hP hD hS hl hi1 hcl KK)
  · exact lv_tableIn (off := 1607) (tgt := 1647) C.hx C.hb dL_law_40 (by decide) (by decide) (by decide) (by decide) (lc_36 C hf hR hP hD hS hl hcl KK)
  · exact lv_tableIn (off := 1620) (tgt := 1660) C.hx C.hb dL_law_40 (by decide) (by decide) (by decide) (by decide) (lc_37 C hf hR hP hD hS hl hi1 hcl KK)
  · exact lv_tableIn (off := 1676) (tgt := 1716) C.hx C.hb dL_law_40 (by decide) (by decide) (by decide) (by decide) (lc_38 C hf hR hP hD hS hl hcl KK)
  · exact lv_tableIn (off := 1689) (tgt := 1729) C.hx C.hb dL_law_40 (by decide) (by decide) (by decide) (by decide) (lc_39 C hf hR hP hD hS hl hi1 hcl KK)
  · exact lv_tableIn (off := 1745) (tgt := 1785) C.hx C.hb dL_law_40 (by decide) (by decide) (by decide) (by decide) (lc_40 C hf hR hP hD hS hl hi1 hcl KK)
  · exact lv_tableIn (off := 1801) (tgt := 1841) C.hx C.hb dL_law_40 (by decide) (by decide) (by decide) (by decide) (lc_41 C hf hR hP hD hS hl hcl KK)
  · exact lv_tableIn (off := 1814) (tgt := 1854) C.hx C.hb dL_law_40 (by decide) (by decide) (by decide) (by decide) (lc_42 C hf hR hP hD hS hl hi1 hcl KK)
  · exact lv_tableIn (off := 1870) (tgt := 1910) C.hx C.hb dL_law_40 (by decide) (by decide) (by decide) (by decide) (lc_43 C hf hR hP hD hS hl hcl KK)
  · exact lv_tableIn (off := 1883) (tgt := 1923) C.hx C.hb dL_law_40 (by decide) (by decide) (by decide) (by decide) (lc_44 C hf hR hP hD hS hl hi1 hcl KK)
  · exact lv_tableIn (off := 1939) (tgt := 1979) C.hx C.hb dL_law_40 (by decide) (by decide) (by decide) (by decide) (lc_45 C hf hR hP hD hS hl hcl KK)
  · exact lv_tableIn (off := 1952) (tgt := 1992) C.hx C.hb dL_law_40 (by decide) (by decide) (by decide) (by decide) (lc_46 C hf hR hP hD hS hl hcl KK)
  · exact lv_tableIn (off := 1965) (tgt := 2005) C.hx C.hb dL_law_40 (by decide) (by decide) (by decide) (by decide) (lc_47 C hf hR hP hD hS hl hcl KK)
  · exact lv_tableIn (off := 1978) (tgt := 2018) C.hx C.hb dL_law_40 (by decide) (by decide) (by decide) (by decide) (lc_48 C hf hR hP hD hS hl hcl KK)
  · exact lv_tableIn (off := 1991) (tgt := 2031) C.hx C.hb dL_law_40 (by decide) (by decide) (by decide) (by decide) (lc_49 C hf hR hP hD hS hl hcl KK)
  · exact lv_tableIn (off := 2004) (tgt := 2044) C.hx C.hb dL_law_40 (by decide) (by decide) (by decide) (by decide) (lc_50 C hf hR hP hD hS hl hcl KK)
  · exact lv_tableIn (off := 2017) (tgt := 2057) C.hx C.hb dL_law_40 (by decide) (by decide) (by decide) (by decide) (lc_51 C hf hR hP hD hS hl hcl KK)
  · exact lv_tableIn (off := 2058) (tgt := 2098) C.hx C.hb dL_law_40 (by decide) (by decide) (by decide) (by decide) (lc_52 C hf hR hP hD hS hl hcl KK)
  · exact lv_tableIn (off := 2101) (tgt := 2141) C.hx C.hb dL_law_40 (by decide) (by decide) (by decide) (by decide) (lc_53 C hf hR hP hD hS hl hcl KK)
  · exact lv_tableIn (off := 2114) (tgt := 2154) C.hx C.hb dL_law_40 (by decide) (by decide) (by decide) (by decide) (lc_54 C hf hR hP hD hS hl hi1 hcl KK)
  · exact lv_tableIn (off := 2170) (tgt := 2210) C.hx C.hb dL_law_40 (by decide) (by decide) (by decide) (by decide) (lc_55 C hf hR hP hD hS hl hcl KK)
  · exact lv_tableIn (off := 2183) (tgt := 2223) C.hx C.hb dL_law_40 (by decide) (by decide) (by decide) (by decide) (lc_56 C hf hR hP hD hS hl hcl KK)
  · exact lv_tableIn (off := 2196) (tgt := 2236) C.hx C.hb dL_law_40 (by decide) (by decide) (by decide) (by decide) (lc_57 C hf hR hP hD hS hl hcl KK)
  · exact lv_tableIn (off := 2209) (tgt := 2249) C.hx C.hb dL_law_40 (by decide) (by decide) (by decide) (by decide) (lc_58 C hf hR hP hD hS hl hcl KK)
  · exact lv_tableIn (off := 2222) (tgt := 2262) C.hx C.hb dL_law_40 (by decide) (by decide) (by decide) (by decide) (lc_59 C hf hR hP hD hS hl hi1 hcl KK)
  · exact lv_tableOut (tgt := 2318) C.hx C.hb dL_law_40 (Or.inr (by decide)) (by decide) (W.widen (k := cells + 8) (n := slots + 48) (by omega) (by omega) (KK c0 m0 o H locs ls hR hP hD hS hl))
  · exact lv_tableOut (tgt := 2318) C.hx C.hb dL_law_40 (Or.inr (by decide)) (by decide) (W.widen (k := cells + 8) (n := slots + 48) (by omega) (by omega) (KK c0 m0 o H locs ls hR hP hD hS hl))
  · exact lv_tableOut (tgt := 2318) C.hx C.hb dL_law_40 (Or.inr (by decide)) (by decide) (W.widen (k := cells + 8) (n := slots + 48) (by omega) (by omega) (KK c0 m0 o H locs ls hR hP hD hS hl))
  · exact lv_tableOut (tgt := 2318) C.hx C.hb dL_law_40 (Or.inr (by decide)) (by decide) (W.widen (k := cells + 8) (n := slots + 48) (by omega) (by omega) (KK c0 m0 o H locs ls hR hP hD hS hl))
set_option maxHeartbeats 4000000 in
set_option maxRecDepth 100000 in
theorem lc_loop (C : LC p l s m args c A0 K dC dI Z b L xs) (hf : 20000 ≤ fu) (hL : L ≤ 3072)
    (EX : ∀ (H : Heap) (locs : List Loc) (ls : Array Slot), va_S A0 s.heap H locs → W p l e room_1 s m args below meth c H locs 601024 7293034 Q (F0 m 2324 ls [])) :
    ∀ (k n : Nat), L ≤ n + 6 * k → n ≤ 3078 → ∀ (c0 : CS) (m0 : MS) (o : Nat → Int64) (H : Heap) (locs : List Loc) (ls : Array Slot) (cells slots : Nat), cells + 8 * k + 8 ≤ 601024 → slots + 48 * k + 48 ≤ 7293034 → REL c0 m0 → va_P (dC, dI) vwCl (LW Z c0 m0 o) H → va_D A0 (LW Z c0 m0 o) → va_S A0 s.heap H locs → lv_has ls 9 [(0, .ref b), (1, .ref (Z.ca 0)), (2, .ref (Z.ma 0)), (3, .ref Z.q), (4, .int (nI n))] →
      W p l e room_1 s m args below meth c H locs cells slots Q (F0 m 23 ls []) := by
  intro k
  induction k with
  | zero =>
    intro n hn hn2 c0 m0 o H locs ls cells slots hc1 hc2 hR hP hD hS hl
    refine lv_iload C.hx C.hb dL_law_23 (lv_at hl 4 rfl) ?_
    refine lv_aload_n C.hx C.hb dL_law_25 rfl (lv_at hl 0 rfl) ?_
    refine va_slen C.hx C.hb C.hX C.hbl C.hbA hS dL_law_26 ?_
    refine lv_bipush (v := 6) C.hx C.hb dL_law_27 (by decide) ?_
    refine lv_isub C.hx C.hb dL_law_29 ?_
    refine lv_icmp_gt (tgt := 2324) C.hx C.hb dL_law_30 (by decide) (fun h9 => ?_) (fun h9 => absurd (show nI L - 6 < nI n by rw [gt6 L n hL (by omega)]; omega) h9)
    exact W.widen (k := 601024) (n := 7293034) (by omega) (by omega) (EX H locs ls hS)
  | succ k ih =>
    intro n hn hn2 c0 m0 o H locs ls cells slots hc1 hc2 hR hP hD hS hl
    refine lv_iload C.hx C.hb dL_law_23 (lv_at hl 4 rfl) ?_
    refine lv_aload_n C.hx C.hb dL_law_25 rfl (lv_at hl 0 rfl) ?_
    refine va_slen C.hx C.hb C.hX C.hbl C.hbA hS dL_law_26 ?_
    refine lv_bipush (v := 6) C.hx C.hb dL_law_27 (by decide) ?_
    refine lv_isub C.hx C.hb dL_law_29 ?_
    refine lv_icmp_gt (tgt := 2324) C.hx C.hb dL_law_30 (by decide) (fun h9 => ?_) (fun h9 => ?_)
    · exact W.widen (k := 601024) (n := 7293034) (by omega) (by omega) (EX H locs ls hS)
    · have h8 : ¬ (L < n + 6) := by
        have h7 : ¬ (nI L - 6 < nI n) := h9
        rw [gt6 L n hL (by omega)] at h7
        exact h7
      refine lv_aload_n C.hx C.hb dL_law_33 rfl (lv_at hl 0 rfl) ?_
      refine lv_iload C.hx C.hb dL_law_34 (lv_at hl 4 rfl) ?_
      refine lq_x C hS (vp_inN n L (by omega) (by omega)) dL_law_36 ?_
      refine lv_bipush (v := 63) C.hx C.hb dL_law_37 (by decide) ?_
      refine lv_iand C.hx C.hb dL_law_39 ?_
      obtain ⟨j, hj, hx⟩ := and63 (xs (nI n).toNatClampNeg)
      rw [hx]
      refine lc_step C hf hL (by omega) (by omega) (by omega) ?_ hR hP hD hS hl hj
      intro c1 m1 o1 H locs ls hR hP hD hS hl
      refine lv_iinc (v := nI (n + 6)) (lv' := [(4, .int (nI (n + 6))), (0, .ref b), (1, .ref (Z.ca 0)), (2, .ref (Z.ma 0)), (3, .ref Z.q)]) C.hx C.hb dL_law_2318 hl (k := 4) rfl (nq_add n 6) (by decide) rfl (fun ls hl => ?_)
      refine lv_goto (tgt := 23) C.hx C.hb dL_law_2321 (by decide) ?_
      exact ih (n + 6) (by omega) (by omega) c1 m1 o1 H locs ls _ _ (by omega) (by omega) hR hP hD hS (lv_sub hl [1, 2, 3, 4, 0] rfl)
end LLOOP
