/-! what holds of the numbers stays so: a symbol -/
def W1 (g : Nat → Nat) : Prop := MB g ∧ g 0 + 2 ≤ 2 ^ g 1 ∧ g 2 ≤ 2 ∧ 1 ≤ g 3 ∧ g 3 ≤ 200 ∧ g 8 ≤ g 7 ∧ (∀ i, i < g 7 → gcd_ g i < 256 ∧ 1 ≤ gwd_ g i ∧ gwd_ g i ≤ 8)
theorem W1_5 {g : Nat → Nat} (h : W1 g) (v : Nat) : W1 (nS g 5 v) := by
  obtain ⟨hm, hq, h2, h31, h3, h8, hcw⟩ := h
  have e := fun k (hk : k ≠ 5) => nS_ne g 5 v k hk
  refine ⟨MB_of hm ⟨e 0 (by omega), e 1 (by omega), e 4 (by omega), fun k h1 h2 => e k (by omega)⟩ (e 7 (by omega)) (e 9 (by omega)) (fun i _ => e _ (by omega)), ?_, ?_, ?_, ?_, ?_, fun i hi => ?_⟩
  · rw [e 0 (by omega), e 1 (by omega)]; exact hq
  · rw [e 2 (by omega)]; exact h2
  · rw [e 3 (by omega)]; exact h31
  · rw [e 3 (by omega)]; exact h3
  · rw [e 8 (by omega), e 7 (by omega)]; exact h8
  · rw [e 7 (by omega)] at hi
    rw [(g5_sm g v).2.2.1, (g5_sm g v).2.2.2]; exact hcw i hi
theorem W1_S {g : Nat → Nat} (h : W1 g) (h6 : g 6 < 400) (s : Nat) : W1 (gS g s) := by
  obtain ⟨hm, hq, h2, h31, h3, h8, hcw⟩ := h
  have e := gS_at g s
  have h7 := hm.2.2.2.1
  refine ⟨gS_MB hm h6 s, ?_, ?_, ?_, ?_, ?_, fun i hi => ?_⟩
  · rw [e 0 (by omega) (by omega), e 1 (by omega) (by omega)]; exact hq
  · rw [e 2 (by omega) (by omega)]; exact h2
  · rw [e 3 (by omega) (by omega)]; exact h31
  · rw [e 3 (by omega) (by omega)]; exact h3
  · rw [e 8 (by omega) (by omega), e 7 (by omega) (by omega)]; exact h8
  · rw [e 7 (by omega) (by omega)] at hi
    have := hcw i hi
    unfold gcd_ gwd_ at this ⊢
    rw [e _ (by omega) (by omega)]; exact this
theorem W1_Wr {g : Nat → Nat} (h : W1 g) (h7 : g 7 < 800) {c : Nat} (hc : c < g 4) : W1 (gWr g c) := by
  obtain ⟨hm, hq, h2, h31, h3, h8, hcw⟩ := h
  obtain ⟨e0, e1, e2, e3, e4, e5, e6, e7, e8, e9, e13⟩ := gWr_at g c
  have hb := bw_rng (g 4)
  have h4 := hm.1.1.2.2.2.2.2
  refine ⟨gWr_MB hm h7 hc, by rw [e0, e1]; exact hq, by omega, by omega, by omega, by omega, fun i hi => ?_⟩
  rw [e7] at hi
  by_cases hi2 : i = g 7
  · subst hi2
    rw [(gWr_new g c).1, (gWr_new g c).2]
    omega
  · rw [(gWr_old g c i (by omega)).1, (gWr_old g c i (by omega)).2]; exact hcw i (by omega)
theorem W1_WC {g : Nat → Nat} (h : W1 g) (h7 : g 7 < 800) : W1 (gWC g) := by
  obtain ⟨hm, hq, h2, h31, h3, h8, hcw⟩ := h
  obtain ⟨hd, hp, h97, _, hcc, hv⟩ := id hm
  obtain ⟨⟨hz2, h0, hw3, h1, hz, h4⟩, wd, ud⟩ := id hd
  obtain ⟨e0, e1, e2, e3, e4, e5, e6, e7, e8, e9, e13⟩ := gWC_at g
  have hb := bw_rng (g 4)
  refine ⟨⟨⟨⟨by omega, by omega, by omega, by omega, by omega, by omega⟩, fun k hk1 hk2 => by omega, fun j k hj hk hn => by omega⟩, by rw [e4, e1]; omega, by omega, by omega, fun i hi => ?_, fun i h1 h2 => by omega⟩, by rw [e0, e1]; exact hq, by omega, by omega, by omega, by omega, fun i hi => ?_⟩
  · rw [e7] at hi
    by_cases hi2 : i = g 7
    · have h5 := gWC_new g
      unfold gcd_ gwd_ at h5
      subst hi2
      omega
    · rw [gWC_hi g _ (by omega) (by omega)]; exact hcc i (by omega)
  · rw [e7] at hi
    by_cases hi2 : i = g 7
    · subst hi2
      rw [(gWC_new g).1, (gWC_new g).2]
      omega
    · rw [(gWC_old g i (by omega)).1, (gWC_old g i (by omega)).2]; exact hcw i (by omega)
theorem W1_Le {g : Nat → Nat} (h : W1 g) (h4 : g 4 < 2 ^ g 1) {c s : Nat} (hc : c < g 4) (hcz : c ≠ g 0) (hs : s < g 0) (hk : gk g c s = 4294967295) : W1 (gLearn g c s) := by
  obtain ⟨hm, hq, h2, h31, h3, h8, hcw⟩ := h
  obtain ⟨hd, hp, h97, h7, hcc, hv⟩ := id hm
  obtain ⟨⟨hz2, h0, hw3, h1, hz, h4b⟩, wd, ud⟩ := id hd
  have hp2 := pow_le8 (g 1) h1
  have e := gLearn_at g c s
  have e4 : gLearn g c s 4 = g 4 + 1 := by unfold gLearn; simp (disch := omega) only [nS_eq, nS_ne]
  have e0 := e 0 (by omega) (by omega) (by omega)
  have e1 := e 1 (by omega) (by omega) (by omega)
  have e2 := e 2 (by omega) (by omega) (by omega)
  have e3 := e 3 (by omega) (by omega) (by omega)
  have e7 := e 7 (by omega) (by omega) (by omega)
  have e8 := e 8 (by omega) (by omega) (by omega)
  have e9 := e 9 (by omega) (by omega) (by omega)
  have ec := fun i => e (926 + i) (by omega) (by omega) (by omega)
  refine ⟨⟨(gLearn_DI hd (by omega) hc hcz hs hk).1, by rw [e4, e1]; omega, by omega, by omega, fun i hi => ?_, fun i h5 hi => ?_⟩, by rw [e0, e1]; exact hq, by omega, by omega, by omega, by omega, fun i hi => ?_⟩
  · rw [ec i]; exact hcc i (by omega)
  · unfold gcd_
    rw [ec i, e4]
    have := hv i (by omega) (by omega)
    unfold gcd_ at this
    omega
  · have := hcw i (by omega)
    unfold gcd_ gwd_ at this ⊢
    rw [ec i]; exact this
theorem WB_iff (g : Nat → Nat) : WB g ↔ W1 g ∧ g 5 ≤ g 4 ∧ g 5 ≠ g 0 + 1 ∧ g 6 ≤ 400 ∧ g 7 ≤ 2 * g 13 ∧ g 13 + glc g = g 6 ∧ (∀ i, i < g 6 → g (526 + i) < g 0) := by
  constructor
  · rintro ⟨hm, hq, h2, h31, h3, h5, h50, h6, h7, hcov, h8, hsy, hcw⟩
    exact ⟨⟨hm, hq, h2, h31, h3, h8, hcw⟩, h5, h50, h6, h7, hcov, hsy⟩
  · rintro ⟨⟨hm, hq, h2, h31, h3, h8, hcw⟩, h5, h50, h6, h7, hcov, hsy⟩
    exact ⟨hm, hq, h2, h31, h3, h5, h50, h6, h7, hcov, h8, hsy, hcw⟩
theorem glc_5 (g : Nat → Nat) (v : Nat) : glc (nS g 5 (v + 1)) = (gph g v).length := by
  unfold glc gph
  rw [nS_eq, (gP5 g _).1, (gP5 g _).2, nS_ne g 5 _ 0 (by omega), if_neg (by omega), Nat.add_sub_cancel]
theorem gph_s {g : Nat → Nat} {s : Nat} (h : s < g 0) : gph g s = [s] := ph_lt h
theorem gS_sym {g : Nat → Nat} {s : Nat} (hs : s < g 0) (h : ∀ i, i < g 6 → g (526 + i) < g 0) (i : Nat) (hi : i < g 6 + 1) : gS g s (526 + i) < g 0 := by
  by_cases h1 : i = g 6
  · subst h1
    have : gS g s (526 + g 6) = s := by unfold gS; simp (disch := omega) only [nS_eq, nS_ne]
    omega
  · rw [gS_at g s _ (by omega) (by omega)]; exact h i (by omega)
/-- what the end of a phrase leaves, but for the phrase -/
theorem gEP_5 {g : Nat → Nat} (h : W1 g) (h7 : g 7 < 799) {c s : Nat} (hc : c < g 4) (hcz : c ≠ g 0) (hs : s < g 0) (hk : gk g c s = 4294967295) :
    ∃ q, gEP g c s = nS q 5 (s + 1) ∧ W1 q ∧ q 0 = g 0 ∧ g 0 + 1 ≤ q 4 ∧ q 6 = g 6 ∧ q 7 ≤ g 7 + 2 ∧ q 13 = g 13 + (gph g c).length ∧ ∀ k, 526 ≤ k → k < 926 → q k = g k := by
  obtain ⟨e0, e1, e2, e3, e4, e5, e6, e7, e8, e9, e13⟩ := gWr_at g c
  obtain ⟨f0, f1, f2, f3, f4, f5, f6, f7, f8, f9, f13⟩ := gWC_at (gWr g c)
  have hw := W1_Wr h (by omega) hc
  obtain ⟨hd, hp, h97, h7b, hcc, hv⟩ := id h.1
  obtain ⟨⟨hz2, h0, hw3, h1, hz, h4b⟩, wd, ud⟩ := id hd
  have hp2 := pow_le8 (g 1) h1
  unfold gEP
  by_cases a : asked (gWr g c) = true
  · rw [if_pos a]
    exact ⟨_, rfl, W1_WC hw (by omega), by omega, by omega, by omega, by omega, by omega, fun k h1 h2 => by rw [gWC_hi _ k (by omega) (by omega), gWr_lo g c k (by omega) h2]⟩
  · rw [if_neg a]
    by_cases b : g 4 = 2 ^ g 1
    · rw [if_pos b]
      exact ⟨_, rfl, hw, by omega, by omega, by omega, by omega, by omega, fun k h1 h2 => gWr_lo g c k (by omega) h2⟩
    · rw [if_neg b]
      have x := gLearn_at (gWr g c) c s
      have x4 : gLearn (gWr g c) c s 4 = g 4 + 1 := by rw [← e4]; unfold gLearn; simp (disch := omega) only [nS_eq, nS_ne]
      have x0 := x 0 (by omega) (by omega) (by omega)
      have x6 := x 6 (by omega) (by omega) (by omega)
      have x7 := x 7 (by omega) (by omega) (by omega)
      have x13 := x 13 (by omega) (by omega) (by omega)
      refine ⟨_, rfl, W1_Le hw (by rw [e4, e1]; omega) (by omega) (by omega) (by omega) (by rw [gk_of hd (DE_gWr g c)]; exact hk), by omega, by omega, by omega, by omega, by omega, fun k h1 h2 => ?_⟩
      rw [x k (by omega) (by omega) (by omega), gWr_lo g c k (by omega) h2]
theorem WB_En {g : Nat → Nat} (h : WB g) (h6 : g 6 < 400) {s : Nat} (hs : s < g 0) : WB (gEn g s) ∧ gEn g s 6 = g 6 + 1 ∧ gEn g s 0 = g 0 := by
  obtain ⟨w, h5, h50, _, h7, hcov, hsy⟩ := (WB_iff g).mp h
  obtain ⟨hd, hp, h97, h7b, hcc, hv⟩ := id w.1
  obtain ⟨⟨hz2, h0, hw3, h1, hz, h4b⟩, wd, ud⟩ := id hd
  have ws := W1_S w h6 s
  obtain ⟨ds, es⟩ := gph_of hd (gS_DE g s)
  have t0 := gS_at g s 0 (by omega) (by omega)
  have t4 := gS_at g s 4 (by omega) (by omega)
  have t7 := gS_at g s 7 (by omega) (by omega)
  have t13 := gS_at g s 13 (by omega) (by omega)
  have t6 : gS g s 6 = g 6 + 1 := nS_eq _ _ _
  have sy := gS_sym hs hsy
  have fin : ∀ v, v < g 4 → v ≠ g 0 → g 13 + (gph g v).length = g 6 + 1 → WB (nS (gS g s) 5 (v + 1)) ∧ nS (gS g s) 5 (v + 1) 6 = g 6 + 1 ∧ nS (gS g s) 5 (v + 1) 0 = g 0 := by
    intro v hv1 hv2 hv3
    have n0 : nS (gS g s) 5 (v + 1) 0 = g 0 := by rw [nS_ne _ _ _ _ (by omega), t0]
    have n6 : nS (gS g s) 5 (v + 1) 6 = g 6 + 1 := by rw [nS_ne _ _ _ _ (by omega), t6]
    refine ⟨(WB_iff _).mpr ⟨W1_5 ws _, ?_, ?_, by omega, ?_, ?_, fun i hi => ?_⟩, n6, n0⟩
    · rw [nS_eq, nS_ne _ _ _ _ (by omega), t4]; omega
    · rw [nS_eq, n0]; omega
    · rw [nS_ne _ _ _ _ (by omega), nS_ne _ _ _ _ (by omega), t7, t13]; exact h7
    · rw [nS_ne _ _ _ 13 (by omega), t13, glc_5, es v hv1, n6]; exact hv3
    · rw [n6] at hi
      rw [n0, nS_ne _ _ _ _ (by omega)]; exact sy i hi
  rw [gEn_eq]
  by_cases c1 : g 5 = 0
  · rw [if_pos c1]
    unfold glc at hcov
    rw [if_pos c1] at hcov
    exact fin s (by omega) (by omega) (by rw [gph_s hs]; simp only [List.length_cons, List.length_nil]; omega)
  · rw [if_neg c1]
    unfold glc at hcov
    rw [if_neg c1] at hcov
    by_cases c2 : gk g (g 5 - 1) s = 4294967295
    · rw [if_pos c2]
      have hc : g 5 - 1 < g 4 := by omega
      have hpos := ph_pos wd hc (show g 5 - 1 ≠ g 0 by omega)
      have t7' : gS g s 7 < 799 := by unfold gph at hcov; omega
      obtain ⟨q, hq, wq, q0, q4, q6, q7, q13, qh⟩ := gEP_5 (s := s) ws t7' (c := g 5 - 1) (by omega) (by omega) (by omega) (by rw [gk_of hd (gS_DE g s)]; exact c2)
      rw [es _ hc] at q13
      rw [hq]
      have n0 : nS q 5 (s + 1) 0 = g 0 := by rw [nS_ne _ _ _ _ (by omega), q0, t0]
      have n6 : nS q 5 (s + 1) 6 = g 6 + 1 := by rw [nS_ne _ _ _ _ (by omega), q6, t6]
      refine ⟨(WB_iff _).mpr ⟨W1_5 wq _, ?_, ?_, by omega, ?_, ?_, fun i hi => ?_⟩, n6, n0⟩
      · rw [nS_eq, nS_ne _ _ _ _ (by omega)]; omega
      · rw [nS_eq, n0]; omega
      · rw [nS_ne _ _ _ _ (by omega), nS_ne _ _ _ _ (by omega)]
        unfold gph at q13
        omega
      · rw [nS_ne _ _ _ 13 (by omega), glc_5, gph_s (show s < q 0 by omega), n6]
        simp only [List.length_cons, List.length_nil]
        omega
      · rw [n6] at hi
        rw [n0, nS_ne _ _ _ _ (by omega), qh _ (by omega) (by omega)]; exact sy i hi
    · rw [if_neg c2]
      rcases kidS_cases (g 0) (gP g) (gL g) (g 5 - 1) s (g 4) with ⟨k1, _⟩ | ⟨k1, k2, k3, k4⟩
      · exact absurd k1 c2
      · have hg := ph_gt wd k1 k2
        refine fin (gk g (g 5 - 1) s) k2 (by unfold gk; omega) ?_
        unfold gk gph
        rw [hg, k3, List.length_append]
        unfold gph at hcov
        simp only [List.length_cons, List.length_nil]
        omega
/-! decoding, as a machine of numbers; what was written is decoded -/
abbrev DT : Type := Nat × (Nat → Nat) × (Nat → Nat) × Nat × List Nat
def dLn (z n : Nat) (P L : Nat → Nat) (pv s : Nat) : Nat × (Nat → Nat) × (Nat → Nat) × Nat :=
  if kidS z P L pv s n = 4294967295 then (n + 1, nS P n pv, nS L n s, n) else (n, P, L, kidS z P L pv s n)
def dTk (z M : Nat) : DT → Nat → Option DT := fun (n, P, L, pv, out) c =>
  if c = z then some (z + 1, P, L, 4294967295, out)
  else if c < n ∨ (c = n ∧ pv ≠ 4294967295 ∧ n < M) then
    if out.length + (if c < n then (ph z P L c).length else (ph z P L pv).length + 1) ≤ 400 then
      if pv ≠ 4294967295 ∧ n < M then
        let q := dLn z n P L pv ((ph z P L (if c < n then c else pv)).getD 0 0)
        let now := if c < n then c else q.2.2.2
        some (q.1, q.2.1, q.2.2.1, now, out ++ ph z q.2.1 q.2.2.1 now)
      else some (n, P, L, c, out ++ ph z P L c)
    else none
  else none
def dRun (z M : Nat) (P0 L0 : Nat → Nat) (cod : Nat → Nat) : Nat → Option DT
| 0 => some (z + 1, P0, L0, 4294967295, [])
| k + 1 => (dRun z M P0 L0 cod k).bind fun d => dTk z M d (cod k)
theorem dRun_congr {z M : Nat} {P0 L0 cod cod' : Nat → Nat} (k : Nat) (h : ∀ i, i < k → cod' i = cod i) : dRun z M P0 L0 cod' k = dRun z M P0 L0 cod k := by
  induction k with
  | zero => rfl
  | succ k ih =>
    show (dRun z M P0 L0 cod' k).bind _ = (dRun z M P0 L0 cod k).bind _
    rw [ih fun i hi => h i (by omega), h k (by omega)]
def syl (g : Nat → Nat) (m : Nat) : List Nat := (List.range m).map fun i => g (526 + i)
def Agr (z n : Nat) (P L P' L' : Nat → Nat) : Prop := ∀ k, z < k → k < n → P k = P' k ∧ L k = L' k
def SR (g : Nat → Nat) (n : Nat) (P L : Nat → Nat) (pv : Nat) : Prop := Agr (g 0) n P L (gP g) (gL g) ∧
  ((pv = 4294967295 ∧ n = g 0 + 1 ∧ g 4 = g 0 + 1) ∨
   (pv < n ∧ pv ≠ g 0 ∧ g 5 ≠ 0 ∧ ((n = g 4 ∧ n = 2 ^ g 1) ∨ (n + 1 = g 4 ∧ g 0 < n ∧ gP g n = pv ∧ gL g n = (gph g (g 5 - 1)).getD 0 0))))
def Sync (g : Nat → Nat) : Prop := ∀ P0 L0, ∃ n P L pv, dRun (g 0) (2 ^ g 1) P0 L0 (gcd_ g) (g 7) = some (n, P, L, pv, syl g (g 13)) ∧ SR g n P L pv
def CUR (g : Nat → Nat) : Prop := g 5 ≠ 0 → gph g (g 5 - 1) = (List.range (gph g (g 5 - 1)).length).map fun i => g (526 + (g 13 + i))
theorem syl_add (g : Nat → Nat) (a b : Nat) : syl g (a + b) = syl g a ++ (List.range b).map fun i => g (526 + (a + i)) := by
  unfold syl
  rw [List.range_add, List.map_append, List.map_map]
  rfl
theorem syl_len (g : Nat → Nat) (m : Nat) : (syl g m).length = m := by
  unfold syl
  rw [List.length_map, List.length_range]
theorem kidS_none {z n : Nat} {P L : Nat → Nat} {c s : Nat} (h : ∀ k, z < k → k < n → ¬ (P k = c ∧ L k = s)) : kidS z P L c s n = 4294967295 := by
  rcases kidS_cases z P L c s n with ⟨h1, _⟩ | ⟨h1, h2, h3, h4⟩
  · exact h1
  · exact absurd ⟨h3, h4⟩ (h _ h1 h2)
theorem ph_agr {z n : Nat} {P L P' L' : Nat → Nat} (wd : WD z n P' L') (h : Agr z n P L P' L') : ∀ c, c < n → ph z P L c = ph z P' L' c :=
  ph_congr wd (fun k h1 h2 => (h k h1 h2).1) (fun k h1 h2 => (h k h1 h2).2)
theorem getD_app0 (A B : List Nat) (h : 1 ≤ A.length) : (A ++ B).getD 0 0 = A.getD 0 0 := by
  cases A with
  | nil => simp only [List.length_nil] at h; omega
  | cons a A => rfl
theorem WD_le {z n m : Nat} {P L : Nat → Nat} (h : WD z n P L) (hm : m ≤ n) : WD z m P L := fun k h1 h2 => h k h1 (by omega)
/-- the code of the phrase is decoded -/
theorem dTk_wr {g : Nat → Nat} (hw : WB g) (h5 : g 5 ≠ 0) {n pv : Nat} {P L : Nat → Nat} (h : SR g n P L pv) :
    ∃ P' L', dTk (g 0) (2 ^ g 1) (n, P, L, pv, syl g (g 13)) (g 5 - 1) = some (g 4, P', L', g 5 - 1, syl g (g 13) ++ gph g (g 5 - 1)) ∧ Agr (g 0) (g 4) P' L' (gP g) (gL g) := by
  obtain ⟨w, h5b, h50, h6, h7, hcov, hsy⟩ := (WB_iff g).mp hw
  obtain ⟨hd, hp, h97, h7b, hcc, hv⟩ := id w.1
  obtain ⟨⟨hz2, h0, hw3, h1, hz, h4b⟩, wd, ud⟩ := id hd
  obtain ⟨ha, hc⟩ := h
  unfold glc at hcov
  rw [if_neg h5] at hcov
  have hlen : (syl g (g 13)).length = g 13 := syl_len g _
  have hz5 : ¬ (g 5 - 1 = g 0) := by omega
  unfold dTk
  simp only
  rw [if_neg hz5, hlen]
  rcases hc with ⟨c1, c2, c3⟩ | ⟨c1, c2, c3, ⟨c4, c5⟩ | ⟨c4, c5, c6, c7⟩⟩
  · have e : ph (g 0) P L (g 5 - 1) = gph g (g 5 - 1) := ph_agr (WD_le wd (by omega)) ha _ (by omega)
    have hlt : g 5 - 1 < n := by omega
    rw [if_pos (Or.inl hlt), if_pos hlt, e, if_pos (by omega), if_neg (fun hx => hx.1 c1)]
    refine ⟨P, L, ?_, ?_⟩
    · rw [show n = g 4 by omega]
    · rw [← show n = g 4 by omega]; exact ha
  · have e : ph (g 0) P L (g 5 - 1) = gph g (g 5 - 1) := ph_agr (WD_le wd (by omega)) ha _ (by omega)
    have hlt : g 5 - 1 < n := by omega
    rw [if_pos (Or.inl hlt), if_pos hlt, e, if_pos (by omega), if_neg (fun hx => by have := hx.2; omega)]
    refine ⟨P, L, ?_, ?_⟩
    · rw [show n = g 4 by omega]
    · rw [← show n = g 4 by omega]; exact ha
  · have wn := WD_le wd (show n ≤ g 4 by omega)
    have hph := ph_agr wn ha
    have hpv : pv ≠ 4294967295 ∧ n < 2 ^ g 1 := ⟨by omega, by omega⟩
    have hn := ph_gt wd (show g 0 < n by omega) (show n < g 4 by omega)
    have hpp := ph_pos wd (show pv < g 4 by omega) c2
    rw [c6] at hn
    have hs0 : (ph (g 0) P L (if g 5 - 1 < n then g 5 - 1 else pv)).getD 0 0 = gL g n := by
      by_cases hlt : g 5 - 1 < n
      · rw [if_pos hlt, hph _ hlt, c7]; rfl
      · rw [if_neg hlt, hph _ c1, c7, show g 5 - 1 = n by omega]
        unfold gph
        rw [hn, getD_app0 _ _ hpp]
    have hk : kidS (g 0) P L pv (gL g n) n = 4294967295 := kidS_none fun k hk1 hk2 hk3 => by
      rw [(ha k hk1 hk2).1, (ha k hk1 hk2).2] at hk3
      exact ud k n hk1 hk2 (by omega) ⟨by rw [hk3.1, c6], hk3.2⟩
    have hag : Agr (g 0) (g 4) (nS P n pv) (nS L n (gL g n)) (gP g) (gL g) := fun k hk1 hk2 => by
      by_cases hk3 : k = n
      · subst hk3; rw [nS_eq, nS_eq]; exact ⟨c6.symm, rfl⟩
      · rw [nS_ne _ _ _ _ hk3, nS_ne _ _ _ _ hk3]; exact ha k hk1 (by omega)
    have hln : (if g 5 - 1 < n then (ph (g 0) P L (g 5 - 1)).length else (ph (g 0) P L pv).length + 1) = (gph g (g 5 - 1)).length := by
      by_cases hlt : g 5 - 1 < n
      · rw [if_pos hlt, hph _ hlt]; rfl
      · rw [if_neg hlt, hph _ c1, show g 5 - 1 = n by omega]
        unfold gph
        rw [hn, List.length_append]
        rfl
    have hval : g 5 - 1 < n ∨ (g 5 - 1 = n ∧ pv ≠ 4294967295 ∧ n < 2 ^ g 1) := by
      by_cases hlt : g 5 - 1 < n
      · exact Or.inl hlt
      · exact Or.inr ⟨by omega, hpv⟩
    have hq : dLn (g 0) n P L pv (gL g n) = (n + 1, nS P n pv, nS L n (gL g n), n) := if_pos hk
    have hnow : (if g 5 - 1 < n then g 5 - 1 else n) = g 5 - 1 := by
      by_cases hlt : g 5 - 1 < n
      · exact if_pos hlt
      · rw [if_neg hlt]; omega
    rw [if_pos hval, hln, if_pos (by omega), if_pos hpv, hs0, hq]
    simp only
    rw [hnow, ph_agr wd hag _ (show g 5 - 1 < g 4 by omega), c4]
    exact ⟨_, _, rfl, hag⟩
/-! what was written stays decodable: a symbol -/
theorem dTk_z (z M : Nat) (d : DT) : dTk z M d z = some (z + 1, d.2.1, d.2.2.1, 4294967295, d.2.2.2.2) := by
  obtain ⟨n, P, L, pv, out⟩ := d
  exact if_pos rfl
theorem gEP_all {g : Nat → Nat} (h : W1 g) (h7 : g 7 < 799) {c s : Nat} (hc : c < g 4) (hcz : c ≠ g 0) (hs : s < g 0) :
    gEP g c s 0 = g 0 ∧ gEP g c s 1 = g 1 ∧ gEP g c s 5 = s + 1 ∧ gEP g c s 6 = g 6 ∧ gEP g c s 13 = g 13 + (gph g c).length ∧ (∀ i, i < g 7 → gcd_ (gEP g c s) i = gcd_ g i) ∧ gcd_ (gEP g c s) (g 7) = c ∧
    ((asked (gWr g c) = true ∧ gEP g c s 7 = g 7 + 2 ∧ gEP g c s 4 = g 0 + 1 ∧ gcd_ (gEP g c s) (g 7 + 1) = g 0) ∨
     (asked (gWr g c) ≠ true ∧ gEP g c s 7 = g 7 + 1 ∧ ((g 4 = 2 ^ g 1 ∧ gEP g c s 4 = g 4 ∧ Agr (g 0) (g 4) (gP g) (gL g) (gP (gEP g c s)) (gL (gEP g c s))) ∨
       (g 4 < 2 ^ g 1 ∧ gEP g c s 4 = g 4 + 1 ∧ Agr (g 0) (g 4) (gP g) (gL g) (gP (gEP g c s)) (gL (gEP g c s)) ∧ gP (gEP g c s) (g 4) = c ∧ gL (gEP g c s) (g 4) = s)))) := by
  obtain ⟨e0, e1, e2, e3, e4, e5, e6, e7, e8, e9, e13⟩ := gWr_at g c
  obtain ⟨f0, f1, f2, f3, f4, f5, f6, f7, f8, f9, f13⟩ := gWC_at (gWr g c)
  obtain ⟨hd, hp, h97, h7b, hcc, hv⟩ := id h.1
  obtain ⟨⟨hz2, h0, hw3, h1, hz, h4b⟩, wd, ud⟩ := id hd
  have hp2 := pow_le8 (g 1) h1
  have hc5 : ∀ (q : Nat → Nat) (i : Nat), gcd_ (nS q 5 (s + 1)) i = gcd_ q i := fun q i => congrFun (g5_sm q (s + 1)).2.2.2 i
  have hn := gWr_new g c
  have ho := fun i hi => (gWr_old g c i hi).1
  have hP : Agr (g 0) (g 4) (gP g) (gL g) (gP (gWr g c)) (gL (gWr g c)) := fun k _ hk => ⟨(gWr_lo g c _ (by omega) (by omega)).symm, (gWr_lo g c _ (by omega) (by omega)).symm⟩
  unfold gEP
  by_cases a : asked (gWr g c) = true
  · rw [if_pos a]
    have n := fun k (hk : k ≠ 5) => nS_ne (gWC (gWr g c)) 5 (s + 1) k hk
    refine ⟨by rw [n 0 (by omega)]; omega, by rw [n 1 (by omega)]; omega, nS_eq _ _ _, by rw [n 6 (by omega)]; omega, by rw [n 13 (by omega)]; omega, fun i hi => ?_, ?_, Or.inl ⟨a, by rw [n 7 (by omega)]; omega, by rw [n 4 (by omega)]; omega, ?_⟩⟩
    · rw [hc5, (gWC_old _ i (by omega)).1, ho i hi]
    · rw [hc5, (gWC_old _ _ (by omega)).1, hn.1]
    · rw [hc5, ← e7, (gWC_new _).1, e0]
  · rw [if_neg a]
    by_cases b : g 4 = 2 ^ g 1
    · rw [if_pos b]
      have n := fun k (hk : k ≠ 5) => nS_ne (gWr g c) 5 (s + 1) k hk
      refine ⟨by rw [n 0 (by omega)]; omega, by rw [n 1 (by omega)]; omega, nS_eq _ _ _, by rw [n 6 (by omega)]; omega, by rw [n 13 (by omega)]; omega, fun i hi => ?_, ?_, Or.inr ⟨a, by rw [n 7 (by omega)]; omega, Or.inl ⟨b, by rw [n 4 (by omega)]; omega, ?_⟩⟩⟩
      · rw [hc5, ho i hi]
      · rw [hc5, hn.1]
      · rw [(gP5 _ _).1, (gP5 _ _).2]; exact hP
    · rw [if_neg b]
      have x := gLearn_at (gWr g c) c s
      have x4 : gLearn (gWr g c) c s 4 = g 4 + 1 := by rw [← e4]; unfold gLearn; simp (disch := omega) only [nS_eq, nS_ne]
      have n := fun k (hk : k ≠ 5) => nS_ne (gLearn (gWr g c) c s) 5 (s + 1) k hk
      have xP := gLearn_P (gWr g c) c s (by omega)
      rw [e4] at xP x
      have x0 := x 0 (by omega) (by omega) (by omega)
      have x1 := x 1 (by omega) (by omega) (by omega)
      have x6 := x 6 (by omega) (by omega) (by omega)
      have x7 := x 7 (by omega) (by omega) (by omega)
      have x13 := x 13 (by omega) (by omega) (by omega)
      have xc : ∀ i, gcd_ (gLearn (gWr g c) c s) i = gcd_ (gWr g c) i := fun i => by unfold gcd_; rw [x _ (by omega) (by omega) (by omega)]
      refine ⟨by rw [n 0 (by omega)]; omega, by rw [n 1 (by omega)]; omega, nS_eq _ _ _, by rw [n 6 (by omega)]; omega, by rw [n 13 (by omega)]; omega, fun i hi => ?_, ?_, Or.inr ⟨a, by rw [n 7 (by omega)]; omega, Or.inr ⟨by omega, by rw [n 4 (by omega)]; omega, ?_, ?_, ?_⟩⟩⟩
      · rw [hc5, xc, ho i hi]
      · rw [hc5, xc, hn.1]
      · rw [(gP5 _ _).1, (gP5 _ _).2]
        intro k hk1 hk2
        rw [(xP k (by omega)).1, (xP k (by omega)).2, nS_ne _ _ _ _ (by omega), nS_ne _ _ _ _ (by omega)]
        exact hP k hk1 hk2
      · rw [(gP5 _ _).1, (xP _ (by omega)).1, nS_eq]
      · rw [(gP5 _ _).2, (xP _ (by omega)).2, nS_eq]
theorem syl_congr {g' g : Nat → Nat} (m : Nat) (h : ∀ i, i < m → g' (526 + i) = g (526 + i)) : syl g' m = syl g m := by
  unfold syl
  exact List.map_congr_left fun i hi => h i (List.mem_range.mp hi)
theorem Agr.trans {z n : Nat} {P L P' L' P'' L'' : Nat → Nat} (h : Agr z n P L P' L') (h' : Agr z n P' L' P'' L'') : Agr z n P L P'' L'' := fun k h1 h2 => ⟨(h k h1 h2).1.trans (h' k h1 h2).1, (h k h1 h2).2.trans (h' k h1 h2).2⟩
theorem Agr.le {z n m : Nat} {P L P' L' : Nat → Nat} (h : Agr z n P L P' L') (hm : m ≤ n) : Agr z m P L P' L' := fun k h1 h2 => h k h1 (by omega)
def SY (g : Nat → Nat) : Prop := Sync g ∧ CUR g
theorem CUR_out {g : Nat → Nat} (hw : WB g) (hc : CUR g) (h5 : g 5 ≠ 0) : syl g (g 13) ++ gph g (g 5 - 1) = syl g (g 6) := by
  obtain ⟨w, h5b, h50, h6, h7, hcov, hsy⟩ := (WB_iff g).mp hw
  unfold glc at hcov
  rw [if_neg h5] at hcov
  rw [hc h5, ← syl_add, hcov]
/-- a change that decoding doesn't see -/
theorem Sync_of {g' g : Nat → Nat} (hw : WB g) (h : Sync g) (e : DE g' g) (e5 : g' 5 = g 5 ∨ (g 5 = 0 ∧ g' 5 ≠ 0) ∨ (g 5 ≠ 0 ∧ g' 5 ≠ 0 ∧ (gph g (g' 5 - 1)).getD 0 0 = (gph g (g 5 - 1)).getD 0 0)) (h5 : g' 5 ≤ g 4) (e7 : g' 7 = g 7) (e13 : g' 13 = g 13) (ec : ∀ i, i < g 7 → g' (926 + i) = g (926 + i)) (es : ∀ i, i < g 13 → g' (526 + i) = g (526 + i)) : Sync g' := by
  obtain ⟨w, h5b, h50, h6, h7, hcov, hsy⟩ := (WB_iff g).mp hw
  obtain ⟨d, ep⟩ := gph_of w.1.1 e
  obtain ⟨⟨hz2, h0, hw3, h1, hz, h4b⟩, wd, ud⟩ := id w.1.1
  intro P0 L0
  obtain ⟨n, P, L, pv, a, ha, hc⟩ := h P0 L0
  obtain ⟨e0, e1, e4, e⟩ := e
  refine ⟨n, P, L, pv, ?_, ?_, ?_⟩
  · rw [e0, e1, e7, e13, dRun_congr (g 7) (fun i hi => show gcd_ g' i = gcd_ g i by unfold gcd_; rw [ec i hi]), syl_congr _ es]
    exact a
  · have hn : n ≤ g 4 := by omega
    rw [e0]
    exact fun k hk1 hk2 => ⟨(ha k hk1 hk2).1.trans (e _ (by omega) (by omega)).symm, (ha k hk1 hk2).2.trans (e _ (by omega) (by omega)).symm⟩
  · rw [e0, e1, e4]
    rcases hc with hc | ⟨c1, c2, c3, c4⟩
    · exact Or.inl hc
    · have h5' : g' 5 ≠ 0 := by omega
      refine Or.inr ⟨c1, c2, h5', ?_⟩
      rcases c4 with c4 | ⟨c4, c5, c6, c7⟩
      · exact Or.inl c4
      · refine Or.inr ⟨c4, c5, (e (14 + n) (by omega) (by omega)).trans c6, ?_⟩
        have hx : gL g' n = gL g n := e (270 + n) (by omega) (by omega)
        rw [hx, c7, ep _ (by omega)]
        rcases e5 with e5 | ⟨e5, _⟩ | ⟨_, _, e5⟩
        · rw [e5]
        · exact absurd e5 c3
        · exact e5.symm
/-! what was written stays decodable: a symbol taken -/
theorem gS_sy {g : Nat → Nat} (s i : Nat) (hi : i < g 6) : gS g s (526 + i) = g (526 + i) := gS_at g s _ (by omega) (by omega)
theorem gph_head {g : Nat → Nat} {s : Nat} (h : s < g 0) : (gph g s).getD 0 0 = s := by
  rw [gph_s h]
  rfl
theorem SY_En {g : Nat → Nat} (hw : WB g) (h : SY g) (h6 : g 6 < 400) {s : Nat} (hs : s < g 0) : SY (gEn g s) := by
  obtain ⟨w, h5, h50, _, h7, hcov, hsy⟩ := (WB_iff g).mp hw
  obtain ⟨hd, hp, h97, h7b, hcc, hv⟩ := id w.1
  obtain ⟨⟨hz2, h0, hw3, h1, hz, h4b⟩, wd, ud⟩ := id hd
  obtain ⟨hsync, hcur⟩ := h
  have ws := W1_S w h6 s
  obtain ⟨ds, es⟩ := gph_of hd (gS_DE g s)
  have t0 := gS_at g s 0 (by omega) (by omega)
  have t1 := gS_at g s 1 (by omega) (by omega)
  have t4 := gS_at g s 4 (by omega) (by omega)
  have t5 := gS_at g s 5 (by omega) (by omega)
  have t7 := gS_at g s 7 (by omega) (by omega)
  have t13 := gS_at g s 13 (by omega) (by omega)
  have t6 : gS g s 6 = g 6 + 1 := nS_eq _ _ _
  have ts : gS g s (526 + g 6) = s := by unfold gS; simp (disch := omega) only [nS_eq, nS_ne]
  have tc : ∀ i, i < g 7 → gS g s (926 + i) = g (926 + i) := fun i hi => gS_at g s _ (by omega) (by omega)
  have fin : ∀ v, v < g 4 → (g 5 = 0 ∨ (g 5 ≠ 0 ∧ (gph g v).getD 0 0 = (gph g (g 5 - 1)).getD 0 0)) → (gph g v = (List.range (gph g v).length).map fun i => gS g s (526 + (g 13 + i))) → SY (nS (gS g s) 5 (v + 1)) := by
    intro v hv1 hv2 hv3
    have n := fun k (hk : k ≠ 5) => nS_ne (gS g s) 5 (v + 1) k hk
    refine ⟨Sync_of hw hsync ⟨by rw [n 0 (by omega), t0], by rw [n 1 (by omega), t1], by rw [n 4 (by omega), t4], fun k hk1 hk2 => by rw [n k (by omega)]; exact (gS_DE g s).2.2.2 k hk1 hk2⟩ ?_ ?_ (by rw [n 7 (by omega), t7]) (by rw [n 13 (by omega), t13]) (fun i hi => by rw [n _ (by omega)]; exact tc i hi) (fun i hi => by rw [n _ (by omega)]; exact gS_sy s i (by omega)), ?_⟩
    · rw [nS_eq, Nat.add_sub_cancel]
      rcases hv2 with hv2 | ⟨hv2, hv4⟩
      · exact Or.inr (Or.inl ⟨hv2, by omega⟩)
      · exact Or.inr (Or.inr ⟨hv2, by omega, hv4⟩)
    · rw [nS_eq]; omega
    · intro _
      have hg : gph (nS (gS g s) 5 (v + 1)) v = gph g v := by
        rw [← es v hv1]
        unfold gph
        rw [(gP5 _ _).1, (gP5 _ _).2, n 0 (by omega)]
      rw [nS_eq, Nat.add_sub_cancel, hg, n 13 (by omega), t13]
      refine hv3.trans (List.map_congr_left fun i hi => ?_)
      exact (n _ (by omega)).symm
  rw [gEn_eq]
  by_cases c1 : g 5 = 0
  · rw [if_pos c1]
    unfold glc at hcov
    rw [if_pos c1] at hcov
    refine fin s (by omega) (Or.inl c1) ?_
    rw [gph_s hs]
    show [s] = [gS g s (526 + (g 13 + 0))]
    rw [show 526 + (g 13 + 0) = 526 + g 6 by omega, ts]
  · rw [if_neg c1]
    have hcov' := hcov
    unfold glc at hcov
    rw [if_neg c1] at hcov
    have hc : g 5 - 1 < g 4 := by omega
    have hpos := ph_pos wd hc (show g 5 - 1 ≠ g 0 by omega)
    by_cases c2 : gk g (g 5 - 1) s = 4294967295
    · rw [if_pos c2]
      obtain ⟨q0, q1, q5, q6, q13, qc, qn, qr⟩ := gEP_all (s := s) ws (by unfold gph at hcov; omega) (c := g 5 - 1) (by omega) (by omega) (by omega)
      have qs := (gEP_at (gS g s) (g 5 - 1) s ws.1.2.1 ws.1.1.1.2.2.2.1).2.2
      rw [es _ hc, t13, hcov] at q13
      rw [t7] at qc qn qr
      rw [t4, t0, t1] at qr
      have hout := CUR_out hw hcur c1
      have hsyl : syl (gEP (gS g s) (g 5 - 1) s) (g 6) = syl g (g 6) := syl_congr _ fun i hi => by rw [qs _ (by omega) (by omega)]; exact gS_sy s i hi
      have hPg : Agr (g 0) (g 4) (gP g) (gL g) (gP (gS g s)) (gL (gS g s)) := fun k _ hk => ⟨(gS_at g s _ (by omega) (by omega)).symm, (gS_at g s _ (by omega) (by omega)).symm⟩
      have hrun : ∀ P0 L0, ∃ P' L', dRun (g 0) (2 ^ g 1) P0 L0 (gcd_ (gEP (gS g s) (g 5 - 1) s)) (g 7 + 1) = some (g 4, P', L', g 5 - 1, syl g (g 6)) ∧ Agr (g 0) (g 4) P' L' (gP g) (gL g) := by
        intro P0 L0
        obtain ⟨n, P, L, pv, a, b⟩ := hsync P0 L0
        obtain ⟨P', L', a2, b2⟩ := dTk_wr hw c1 b
        refine ⟨P', L', ?_, b2⟩
        show (dRun (g 0) (2 ^ g 1) P0 L0 (gcd_ (gEP (gS g s) (g 5 - 1) s)) (g 7)).bind _ = _
        rw [dRun_congr (g 7) (fun i hi => show gcd_ (gEP (gS g s) (g 5 - 1) s) i = gcd_ g i by rw [qc i hi]; unfold gcd_; rw [tc i hi]), a, qn]
        show dTk (g 0) (2 ^ g 1) (n, P, L, pv, syl g (g 13)) (g 5 - 1) = _
        rw [a2, hout]
      refine ⟨fun P0 L0 => ?_, fun _ => ?_⟩
      · obtain ⟨P', L', a, b⟩ := hrun P0 L0
        rw [q0, q1, t0, t1, q13, hsyl]
        rcases qr with ⟨_, q7, q4, qz⟩ | ⟨_, q7, ⟨k1, q4, k3⟩ | ⟨k1, q4, k3, k4, k5⟩⟩
        · refine ⟨g 0 + 1, P', L', 4294967295, ?_, ?_, Or.inl ⟨rfl, by rw [q0, t0], by rw [q4, q0, t0]⟩⟩
          · rw [q7]
            show (dRun (g 0) (2 ^ g 1) P0 L0 (gcd_ (gEP (gS g s) (g 5 - 1) s)) (g 7 + 1)).bind _ = _
            rw [a, qz]
            exact dTk_z (g 0) (2 ^ g 1) (g 4, P', L', g 5 - 1, syl g (g 6))
          · rw [q0, t0]
            exact fun k hk1 hk2 => by omega
        · refine ⟨g 4, P', L', g 5 - 1, ?_, ?_, Or.inr ⟨hc, by rw [q0, t0]; omega, by rw [q5]; omega, Or.inl ⟨q4.symm, by rw [q1, t1]; exact k1⟩⟩⟩
          · rw [q7]; exact a
          · rw [q0, t0]
            exact b.trans (hPg.trans k3)
        · refine ⟨g 4, P', L', g 5 - 1, ?_, ?_, Or.inr ⟨hc, by rw [q0, t0]; omega, by rw [q5]; omega, Or.inr ⟨q4.symm, by rw [q0, t0]; omega, k4, ?_⟩⟩⟩
          · rw [q7]; exact a
          · rw [q0, t0]
            exact b.trans (hPg.trans k3)
          · rw [k5, q5, Nat.add_sub_cancel]
            exact (gph_head (by rw [q0, t0]; exact hs)).symm
      · rw [q5, Nat.add_sub_cancel, gph_s (show s < gEP (gS g s) (g 5 - 1) s 0 by rw [q0, t0]; exact hs), q13]
        show [s] = [gEP (gS g s) (g 5 - 1) s (526 + (g 6 + 0))]
        rw [qs _ (by omega) (by omega), Nat.add_zero, ts]
    · rw [if_neg c2]
      rcases kidS_cases (g 0) (gP g) (gL g) (g 5 - 1) s (g 4) with ⟨k1, _⟩ | ⟨k1, k2, k3, k4⟩
      · exact absurd k1 c2
      · have hg : gph g (gk g (g 5 - 1) s) = gph g (g 5 - 1) ++ [s] := by
          have := ph_gt wd k1 k2
          rw [k3, k4] at this
          exact this
        refine fin (gk g (g 5 - 1) s) k2 (Or.inr ⟨c1, ?_⟩) ?_
        · rw [hg]
          exact getD_app0 _ _ hpos
        · rw [hg, List.length_append]
          simp only [List.length_cons, List.length_nil, Nat.zero_add]
          rw [List.range_succ, List.map_append]
          have hm : (List.range (gph g (g 5 - 1)).length).map (fun i => gS g s (526 + (g 13 + i))) = gph g (g 5 - 1) := by
            refine Eq.trans (List.map_congr_left fun i hi => ?_) (hcur c1).symm
            have := List.mem_range.mp hi
            exact gS_sy s _ (by omega)
          rw [hm]
          show _ = _ ++ [gS g s (526 + (g 13 + (gph g (g 5 - 1)).length))]
          rw [hcov, ts]
/-! the model's rows copied: aside, undone, slots -/
def nC (g f : Nat → Nat) (a b n : Nat) : Nat → Nat := fun j => if a ≤ j ∧ j < a + n then f (b + (j - a)) else g j
theorem nC_zero (g f : Nat → Nat) (a b : Nat) : nC g f a b 0 = g := funext fun j => if_neg (by omega)
theorem nC_succ (g f : Nat → Nat) (a b k : Nat) : nS (nC g f a b k) (a + k) (f (b + k)) = nC g f a b (k + 1) := by
  funext j
  show (if j = a + k then f (b + k) else if a ≤ j ∧ j < a + k then f (b + (j - a)) else g j) = (if a ≤ j ∧ j < a + (k + 1) then f (b + (j - a)) else g j)
  by_cases h : j = a + k
  · subst h
    rw [if_pos rfl, if_pos (by omega), Nat.add_sub_cancel_left]
  · rw [if_neg h]
    by_cases h2 : a ≤ j ∧ j < a + k
    · rw [if_pos h2, if_pos (by omega)]
    · rw [if_neg h2, if_neg (by omega)]
theorem nC_in (g f : Nat → Nat) (a b n j : Nat) (h : j < n) : nC g f a b n (a + j) = f (b + j) := by
  show (if a ≤ a + j ∧ a + j < a + n then f (b + (a + j - a)) else g (a + j)) = _
  rw [if_pos (by omega), Nat.add_sub_cancel_left]
theorem nC_out (g f : Nat → Nat) (a b n j : Nat) (h : ¬ (a ≤ j ∧ j < a + n)) : nC g f a b n j = g j := if_neg h
theorem m_ka_b (fu : Nat) (g a : Nat → Nat) : ∀ n k, k ≤ 1726 → 1726 < n + k → J_X8_keepsAside_b2 fu (nW g) n (nW (nC a g 0 0 k)) (nI k) = some (nW (nC a g 0 0 1726)) := by
  intro n
  induction n with
  | zero => intro k h1 h2; omega
  | succ n ih =>
    intro k h1 h2
    unfold J_X8_keepsAside_b2
    by_cases h3 : k = 1726
    · subst h3
      simp (disch := first | omega | assumption) only [nq_neg, nq_fix, nq_sub1, nq_addN, nq_add, nq_mul, nq_sub, nq_ltN, nq_Nlt, nq_leN, nq_Nle, nq_lt, nq_le, nq_eq, nq_div, nq_pow, nq_tn, rd_W, wr_W, nS_eq, nS_ne, Option.bind_some, Option.bind_none, ↓reduceIte, Bool.false_eq_true, Nat.reduceEqDiff, Nat.reduceLT, Nat.reduceLeDiff, Nat.reduceAdd, Nat.reduceMul, Nat.reduceSub, Nat.reducePow, Nat.add_sub_cancel, Nat.zero_le, Nat.not_lt_zero, Nat.le_refl, Nat.lt_irrefl, l_0, l_1, l_2, l_3, l_4, l_5, l_6, l_7, l_8, l_9, l_10, l_13, l_14, l_16, l_20, l_24, l_26, l_30, l_31, l_32, l_48, l_57, l_59, l_63, l_96, l_97, l_100, l_122, l_200, l_255, l_256, l_270, l_400, l_429, l_526, l_780, l_800, l_926, l_1726, l_12082]
    · have h4 := ih (k + 1) (by omega) (by omega)
      rw [← nC_succ, Nat.zero_add] at h4
      simp (disch := first | omega | assumption) only [nq_neg, nq_fix, nq_sub1, nq_addN, nq_add, nq_mul, nq_sub, nq_ltN, nq_Nlt, nq_leN, nq_Nle, nq_lt, nq_le, nq_eq, nq_div, nq_pow, nq_tn, rd_W, wr_W, nS_eq, nS_ne, Option.bind_some, Option.bind_none, ↓reduceIte, Bool.false_eq_true, Nat.reduceEqDiff, Nat.reduceLT, Nat.reduceLeDiff, Nat.reduceAdd, Nat.reduceMul, Nat.reduceSub, Nat.reducePow, Nat.add_sub_cancel, Nat.zero_le, Nat.not_lt_zero, Nat.le_refl, Nat.lt_irrefl, l_0, l_1, l_2, l_3, l_4, l_5, l_6, l_7, l_8, l_9, l_10, l_13, l_14, l_16, l_20, l_24, l_26, l_30, l_31, l_32, l_48, l_57, l_59, l_63, l_96, l_97, l_100, l_122, l_200, l_255, l_256, l_270, l_400, l_429, l_526, l_780, l_800, l_926, l_1726, l_12082, show ¬ (1726 ≤ k) by omega]
      exact h4
theorem m_keepsAside (fu : Nat) (hf : 20000 ≤ fu) (g a : Nat → Nat) : J_X8_keepsAside fu (nW g) (nW a) = some (nW (nC a g 0 0 1726)) := by
  have := m_ka_b fu g a fu 0 (by omega) (by omega)
  rw [nC_zero] at this
  exact this
theorem m_tb_b (fu : Nat) (g a : Nat → Nat) : ∀ n k, k ≤ 1726 → 1726 < n + k → J_X8_takesBack_b2 fu (nW a) n (nW (nC g a 0 0 k)) (nI k) = some (nW (nC g a 0 0 1726)) := by
  intro n
  induction n with
  | zero => intro k h1 h2; omega
  | succ n ih =>
    intro k h1 h2
    unfold J_X8_takesBack_b2
    by_cases h3 : k = 1726
    · subst h3
      simp (disch := first | omega | assumption) only [nq_neg, nq_fix, nq_sub1, nq_addN, nq_add, nq_mul, nq_sub, nq_ltN, nq_Nlt, nq_leN, nq_Nle, nq_lt, nq_le, nq_eq, nq_div, nq_pow, nq_tn, rd_W, wr_W, nS_eq, nS_ne, Option.bind_some, Option.bind_none, ↓reduceIte, Bool.false_eq_true, Nat.reduceEqDiff, Nat.reduceLT, Nat.reduceLeDiff, Nat.reduceAdd, Nat.reduceMul, Nat.reduceSub, Nat.reducePow, Nat.add_sub_cancel, Nat.zero_le, Nat.not_lt_zero, Nat.le_refl, Nat.lt_irrefl, l_0, l_1, l_2, l_3, l_4, l_5, l_6, l_7, l_8, l_9, l_10, l_13, l_14, l_16, l_20, l_24, l_26, l_30, l_31, l_32, l_48, l_57, l_59, l_63, l_96, l_97, l_100, l_122, l_200, l_255, l_256, l_270, l_400, l_429, l_526, l_780, l_800, l_926, l_1726, l_12082]
    · have h4 := ih (k + 1) (by omega) (by omega)
      rw [← nC_succ, Nat.zero_add] at h4
      simp (disch := first | omega | assumption) only [nq_neg, nq_fix, nq_sub1, nq_addN, nq_add, nq_mul, nq_sub, nq_ltN, nq_Nlt, nq_leN, nq_Nle, nq_lt, nq_le, nq_eq, nq_div, nq_pow, nq_tn, rd_W, wr_W, nS_eq, nS_ne, Option.bind_some, Option.bind_none, ↓reduceIte, Bool.false_eq_true, Nat.reduceEqDiff, Nat.reduceLT, Nat.reduceLeDiff, Nat.reduceAdd, Nat.reduceMul, Nat.reduceSub, Nat.reducePow, Nat.add_sub_cancel, Nat.zero_le, Nat.not_lt_zero, Nat.le_refl, Nat.lt_irrefl, l_0, l_1, l_2, l_3, l_4, l_5, l_6, l_7, l_8, l_9, l_10, l_13, l_14, l_16, l_20, l_24, l_26, l_30, l_31, l_32, l_48, l_57, l_59, l_63, l_96, l_97, l_100, l_122, l_200, l_255, l_256, l_270, l_400, l_429, l_526, l_780, l_800, l_926, l_1726, l_12082, show ¬ (1726 ≤ k) by omega]
      exact h4
theorem m_takesBack (fu : Nat) (hf : 20000 ≤ fu) (g a : Nat → Nat) : J_X8_takesBack fu (nW g) (nW a) = some (nW (nC g a 0 0 1726)) := by
  have := m_tb_b fu g a fu 0 (by omega) (by omega)
  rw [nC_zero] at this
  exact this
theorem m_told (t : Int32) (v : Int32) : J_X8_told t v = some (v, nI 0) := rfl
theorem m_throwing (t : Int32) (v : Int32) : J_X8_throwing t v = some (nI 0, v) := rfl
theorem m_ch_b (fu : Nat) (a u : Nat → Nat) (t v : Int32) (m : Nat) (hm : m < 8) : ∀ n k, k ≤ 1726 → 1726 < n + k →
    J_X8_changed_b52 fu (nW a) n t (nW (nC u a (1726 * m) 0 k)) (nI m) v (nI k) = some (v, nI 0, nW (nC u a (1726 * m) 0 1726), nI (m + 1)) := by
  intro n
  induction n with
  | zero => intro k h1 h2; omega
  | succ n ih =>
    intro k h1 h2
    unfold J_X8_changed_b52
    by_cases h3 : k = 1726
    · subst h3
      simp (disch := first | omega | assumption) only [nq_neg, nq_fix, nq_sub1, nq_addN, nq_add, nq_mul, nq_sub, nq_ltN, nq_Nlt, nq_leN, nq_Nle, nq_lt, nq_le, nq_eq, nq_div, nq_pow, nq_tn, rd_W, wr_W, nS_eq, nS_ne, Option.bind_some, Option.bind_none, ↓reduceIte, Bool.false_eq_true, Nat.reduceEqDiff, Nat.reduceLT, Nat.reduceLeDiff, Nat.reduceAdd, Nat.reduceMul, Nat.reduceSub, Nat.reducePow, Nat.add_sub_cancel, Nat.zero_le, Nat.not_lt_zero, Nat.le_refl, Nat.lt_irrefl, l_0, l_1, l_2, l_3, l_4, l_5, l_6, l_7, l_8, l_9, l_10, l_13, l_14, l_16, l_20, l_24, l_26, l_30, l_31, l_32, l_48, l_57, l_59, l_63, l_96, l_97, l_100, l_122, l_200, l_255, l_256, l_270, l_400, l_429, l_526, l_780, l_800, l_926, l_1726, l_12082, m_told]
    · have h4 := ih (k + 1) (by omega) (by omega)
      rw [← nC_succ, Nat.zero_add] at h4
      simp (disch := first | omega | assumption) only [nq_neg, nq_fix, nq_sub1, nq_addN, nq_add, nq_mul, nq_sub, nq_ltN, nq_Nlt, nq_leN, nq_Nle, nq_lt, nq_le, nq_eq, nq_div, nq_pow, nq_tn, rd_W, wr_W, nS_eq, nS_ne, Option.bind_some, Option.bind_none, ↓reduceIte, Bool.false_eq_true, Nat.reduceEqDiff, Nat.reduceLT, Nat.reduceLeDiff, Nat.reduceAdd, Nat.reduceMul, Nat.reduceSub, Nat.reducePow, Nat.add_sub_cancel, Nat.zero_le, Nat.not_lt_zero, Nat.le_refl, Nat.lt_irrefl, l_0, l_1, l_2, l_3, l_4, l_5, l_6, l_7, l_8, l_9, l_10, l_13, l_14, l_16, l_20, l_24, l_26, l_30, l_31, l_32, l_48, l_57, l_59, l_63, l_96, l_97, l_100, l_122, l_200, l_255, l_256, l_270, l_400, l_429, l_526, l_780, l_800, l_926, l_1726, l_12082, show ¬ (1726 ≤ k) by omega]
      exact h4
theorem m_ch_s (fu : Nat) (hf : 20000 ≤ fu) (a u : Nat → Nat) (t v : Int32) : ∀ n k, k ≤ 12082 → 12082 < n + k →
    J_X8_changed_b11 fu (nW a) n t (nW (nC u u 0 1726 k)) (nI 8) v (nI k) = some (v, nI 0, nW (nC (nC u u 0 1726 12082) a (1726 * 7) 0 1726), nI 8) := by
  intro n
  induction n with
  | zero => intro k h1 h2; omega
  | succ n ih =>
    intro k h1 h2
    unfold J_X8_changed_b11
    by_cases h3 : k = 12082
    · subst h3
      have := m_ch_b fu a (nC u u 0 1726 12082) t v 7 (by omega) fu 0 (by omega) (by omega)
      rw [nC_zero] at this
      unfold J_X8_changed_b50
      simp (disch := first | omega | assumption) only [nq_neg, nq_fix, nq_sub1, nq_addN, nq_add, nq_mul, nq_sub, nq_ltN, nq_Nlt, nq_leN, nq_Nle, nq_lt, nq_le, nq_eq, nq_div, nq_pow, nq_tn, rd_W, wr_W, nS_eq, nS_ne, Option.bind_some, Option.bind_none, ↓reduceIte, Bool.false_eq_true, Nat.reduceEqDiff, Nat.reduceLT, Nat.reduceLeDiff, Nat.reduceAdd, Nat.reduceMul, Nat.reduceSub, Nat.reducePow, Nat.add_sub_cancel, Nat.zero_le, Nat.not_lt_zero, Nat.le_refl, Nat.lt_irrefl, l_0, l_1, l_2, l_3, l_4, l_5, l_6, l_7, l_8, l_9, l_10, l_13, l_14, l_16, l_20, l_24, l_26, l_30, l_31, l_32, l_48, l_57, l_59, l_63, l_96, l_97, l_100, l_122, l_200, l_255, l_256, l_270, l_400, l_429, l_526, l_780, l_800, l_926, l_1726, l_12082]
      exact this
    · have h4 := ih (k + 1) (by omega) (by omega)
      rw [← nC_succ, Nat.zero_add] at h4
      have h5 : nC u u 0 1726 k (k + 1726) = u (1726 + k) := by rw [nC_out _ _ _ _ _ _ (by omega), Nat.add_comm]
      simp (disch := first | omega | assumption) only [nq_neg, nq_fix, nq_sub1, nq_addN, nq_add, nq_mul, nq_sub, nq_ltN, nq_Nlt, nq_leN, nq_Nle, nq_lt, nq_le, nq_eq, nq_div, nq_pow, nq_tn, rd_W, wr_W, nS_eq, nS_ne, Option.bind_some, Option.bind_none, ↓reduceIte, Bool.false_eq_true, Nat.reduceEqDiff, Nat.reduceLT, Nat.reduceLeDiff, Nat.reduceAdd, Nat.reduceMul, Nat.reduceSub, Nat.reducePow, Nat.add_sub_cancel, Nat.zero_le, Nat.not_lt_zero, Nat.le_refl, Nat.lt_irrefl, l_0, l_1, l_2, l_3, l_4, l_5, l_6, l_7, l_8, l_9, l_10, l_13, l_14, l_16, l_20, l_24, l_26, l_30, l_31, l_32, l_48, l_57, l_59, l_63, l_96, l_97, l_100, l_122, l_200, l_255, l_256, l_270, l_400, l_429, l_526, l_780, l_800, l_926, l_1726, l_12082, show ¬ (12082 ≤ k) by omega, h5]
      exact h4
/-- what `changed` leaves of the rows to undo, and of their number -/
def chU (u a : Nat → Nat) (m : Nat) : Nat → Nat := if m = 8 then nC (nC u u 0 1726 12082) a (1726 * 7) 0 1726 else nC u a (1726 * m) 0 1726
def chK (m : Nat) : Nat := if m = 8 then 8 else m + 1
theorem m_changed (fu : Nat) (hf : 20000 ≤ fu) (a u : Nat → Nat) (t v : Int32) (m : Nat) (hm : m ≤ 8) : J_X8_changed fu t (nW a) (nW u) (nI m) v = some (v, nI 0, nW (chU u a m), nI (chK m)) := by
  unfold J_X8_changed chU chK
  by_cases h : m = 8
  · subst h
    have := m_ch_s fu hf a u t v fu 0 (by omega) (by omega)
    rw [nC_zero] at this
    simp (disch := first | omega | assumption) only [nq_neg, nq_fix, nq_sub1, nq_addN, nq_add, nq_mul, nq_sub, nq_ltN, nq_Nlt, nq_leN, nq_Nle, nq_lt, nq_le, nq_eq, nq_div, nq_pow, nq_tn, rd_W, wr_W, nS_eq, nS_ne, Option.bind_some, Option.bind_none, ↓reduceIte, Bool.false_eq_true, Nat.reduceEqDiff, Nat.reduceLT, Nat.reduceLeDiff, Nat.reduceAdd, Nat.reduceMul, Nat.reduceSub, Nat.reducePow, Nat.add_sub_cancel, Nat.zero_le, Nat.not_lt_zero, Nat.le_refl, Nat.lt_irrefl, l_0, l_1, l_2, l_3, l_4, l_5, l_6, l_7, l_8, l_9, l_10, l_13, l_14, l_16, l_20, l_24, l_26, l_30, l_31, l_32, l_48, l_57, l_59, l_63, l_96, l_97, l_100, l_122, l_200, l_255, l_256, l_270, l_400, l_429, l_526, l_780, l_800, l_926, l_1726, l_12082]
    exact this
  · have := m_ch_b fu a u t v m (by omega) fu 0 (by omega) (by omega)
    rw [nC_zero] at this
    unfold J_X8_changed_b50
    simp (disch := first | omega | assumption) only [nq_neg, nq_fix, nq_sub1, nq_addN, nq_add, nq_mul, nq_sub, nq_ltN, nq_Nlt, nq_leN, nq_Nle, nq_lt, nq_le, nq_eq, nq_div, nq_pow, nq_tn, rd_W, wr_W, nS_eq, nS_ne, Option.bind_some, Option.bind_none, ↓reduceIte, Bool.false_eq_true, Nat.reduceEqDiff, Nat.reduceLT, Nat.reduceLeDiff, Nat.reduceAdd, Nat.reduceMul, Nat.reduceSub, Nat.reducePow, Nat.add_sub_cancel, Nat.zero_le, Nat.not_lt_zero, Nat.le_refl, Nat.lt_irrefl, l_0, l_1, l_2, l_3, l_4, l_5, l_6, l_7, l_8, l_9, l_10, l_13, l_14, l_16, l_20, l_24, l_26, l_30, l_31, l_32, l_48, l_57, l_59, l_63, l_96, l_97, l_100, l_122, l_200, l_255, l_256, l_270, l_400, l_429, l_526, l_780, l_800, l_926, l_1726, l_12082, h]
    exact this
theorem m_un_b (fu : Nat) (g u : Nat → Nat) (t : Int32) (m : Nat) (hm : m < 8) : ∀ n k, k ≤ 1726 → 1726 < n + k →
    J_X8_undo_b25 fu (nW u) n t (nW (nC g u 0 (1726 * m) k)) (nI m) (nI k) = some (nI m, nI 0, nW (nC g u 0 (1726 * m) 1726), nI m) := by
  intro n
  induction n with
  | zero => intro k h1 h2; omega
  | succ n ih =>
    intro k h1 h2
    unfold J_X8_undo_b25
    by_cases h3 : k = 1726
    · subst h3
      simp (disch := first | omega | assumption) only [nq_neg, nq_fix, nq_sub1, nq_addN, nq_add, nq_mul, nq_sub, nq_ltN, nq_Nlt, nq_leN, nq_Nle, nq_lt, nq_le, nq_eq, nq_div, nq_pow, nq_tn, rd_W, wr_W, nS_eq, nS_ne, Option.bind_some, Option.bind_none, ↓reduceIte, Bool.false_eq_true, Nat.reduceEqDiff, Nat.reduceLT, Nat.reduceLeDiff, Nat.reduceAdd, Nat.reduceMul, Nat.reduceSub, Nat.reducePow, Nat.add_sub_cancel, Nat.zero_le, Nat.not_lt_zero, Nat.le_refl, Nat.lt_irrefl, l_0, l_1, l_2, l_3, l_4, l_5, l_6, l_7, l_8, l_9, l_10, l_13, l_14, l_16, l_20, l_24, l_26, l_30, l_31, l_32, l_48, l_57, l_59, l_63, l_96, l_97, l_100, l_122, l_200, l_255, l_256, l_270, l_400, l_429, l_526, l_780, l_800, l_926, l_1726, l_12082, m_told]
    · have h4 := ih (k + 1) (by omega) (by omega)
      rw [← nC_succ, Nat.zero_add] at h4
      simp (disch := first | omega | assumption) only [nq_neg, nq_fix, nq_sub1, nq_addN, nq_add, nq_mul, nq_sub, nq_ltN, nq_Nlt, nq_leN, nq_Nle, nq_lt, nq_le, nq_eq, nq_div, nq_pow, nq_tn, rd_W, wr_W, nS_eq, nS_ne, Option.bind_some, Option.bind_none, ↓reduceIte, Bool.false_eq_true, Nat.reduceEqDiff, Nat.reduceLT, Nat.reduceLeDiff, Nat.reduceAdd, Nat.reduceMul, Nat.reduceSub, Nat.reducePow, Nat.add_sub_cancel, Nat.zero_le, Nat.not_lt_zero, Nat.le_refl, Nat.lt_irrefl, l_0, l_1, l_2, l_3, l_4, l_5, l_6, l_7, l_8, l_9, l_10, l_13, l_14, l_16, l_20, l_24, l_26, l_30, l_31, l_32, l_48, l_57, l_59, l_63, l_96, l_97, l_100, l_122, l_200, l_255, l_256, l_270, l_400, l_429, l_526, l_780, l_800, l_926, l_1726, l_12082, show ¬ (1726 ≤ k) by omega]
      exact h4
theorem m_undo (fu : Nat) (hf : 20000 ≤ fu) (g u : Nat → Nat) (t : Int32) (m : Nat) (hm : m ≤ 8) : J_X8_undo fu t (nW g) (nW u) (nI m) = some (if m = 0 then (nI 0, nI 1, nW g, nI 0) else (nI (m - 1), nI 0, nW (nC g u 0 (1726 * (m - 1)) 1726), nI (m - 1))) := by
  unfold J_X8_undo
  by_cases h : m = 0
  · subst h
    simp (disch := first | omega | assumption) only [nq_neg, nq_fix, nq_sub1, nq_addN, nq_add, nq_mul, nq_sub, nq_ltN, nq_Nlt, nq_leN, nq_Nle, nq_lt, nq_le, nq_eq, nq_div, nq_pow, nq_tn, rd_W, wr_W, nS_eq, nS_ne, Option.bind_some, Option.bind_none, ↓reduceIte, Bool.false_eq_true, Nat.reduceEqDiff, Nat.reduceLT, Nat.reduceLeDiff, Nat.reduceAdd, Nat.reduceMul, Nat.reduceSub, Nat.reducePow, Nat.add_sub_cancel, Nat.zero_le, Nat.not_lt_zero, Nat.le_refl, Nat.lt_irrefl, l_0, l_1, l_2, l_3, l_4, l_5, l_6, l_7, l_8, l_9, l_10, l_13, l_14, l_16, l_20, l_24, l_26, l_30, l_31, l_32, l_48, l_57, l_59, l_63, l_96, l_97, l_100, l_122, l_200, l_255, l_256, l_270, l_400, l_429, l_526, l_780, l_800, l_926, l_1726, l_12082, m_throwing]
  · have := m_un_b fu g u t (m - 1) (by omega) fu 0 (by omega) (by omega)
    rw [nC_zero] at this
    simp (disch := first | omega | assumption) only [nq_neg, nq_fix, nq_sub1, nq_addN, nq_add, nq_mul, nq_sub, nq_ltN, nq_Nlt, nq_leN, nq_Nle, nq_lt, nq_le, nq_eq, nq_div, nq_pow, nq_tn, rd_W, wr_W, nS_eq, nS_ne, Option.bind_some, Option.bind_none, ↓reduceIte, Bool.false_eq_true, Nat.reduceEqDiff, Nat.reduceLT, Nat.reduceLeDiff, Nat.reduceAdd, Nat.reduceMul, Nat.reduceSub, Nat.reducePow, Nat.add_sub_cancel, Nat.zero_le, Nat.not_lt_zero, Nat.le_refl, Nat.lt_irrefl, l_0, l_1, l_2, l_3, l_4, l_5, l_6, l_7, l_8, l_9, l_10, l_13, l_14, l_16, l_20, l_24, l_26, l_30, l_31, l_32, l_48, l_57, l_59, l_63, l_96, l_97, l_100, l_122, l_200, l_255, l_256, l_270, l_400, l_429, l_526, l_780, l_800, l_926, l_1726, l_12082, h]
    exact this
/-! flush, restart, settings: what the model's row becomes, and what holds of it -/
def GOOD (g : Nat → Nat) : Prop := WB g ∧ SY g
def gEA (g : Nat → Nat) : Nat → Nat := nS (gWC (gWr g (g 5 - 1))) 5 0
theorem wr_room {g : Nat → Nat} (h : WB g) (h5 : g 5 ≠ 0) : g 7 < 799 ∧ g 5 - 1 < g 4 ∧ g 5 - 1 ≠ g 0 ∧ 1 ≤ (gph g (g 5 - 1)).length ∧ g 13 + (gph g (g 5 - 1)).length = g 6 := by
  obtain ⟨w, h5b, h50, h6, h7, hcov, hsy⟩ := (WB_iff g).mp h
  obtain ⟨⟨hz2, h0, hw3, h1, hz, h4b⟩, wd, ud⟩ := id w.1.1
  unfold glc at hcov
  rw [if_neg h5] at hcov
  have hpos := ph_pos wd (show g 5 - 1 < g 4 by omega) (show g 5 - 1 ≠ g 0 by omega)
  refine ⟨?_, by omega, by omega, hpos, hcov⟩
  unfold gph at hcov
  omega
theorem m_endsAll (fu : Nat) (hf : 20000 ≤ fu) {g : Nat → Nat} (h : WB g) (h5 : g 5 ≠ 0) : J_X8_endsAll fu (nW g) = some (nW (gEA g)) := by
  obtain ⟨r1, r2, r3, r4, r5⟩ := wr_room h h5
  have hm := h.1
  obtain ⟨⟨hz2, h0, hw3, h1, hz, h4b⟩, wd, ud⟩ := id hm.1
  have hm2 := gWr_MB hm (by omega) r2
  have e7 := (gWr_at g (g 5 - 1)).2.2.2.2.2.2.2.1
  unfold J_X8_endsAll gEA
  simp (disch := first | omega | assumption) only [nq_neg, nq_fix, nq_sub1, nq_addN, nq_add, nq_mul, nq_sub, nq_ltN, nq_Nlt, nq_leN, nq_Nle, nq_lt, nq_le, nq_eq, nq_div, nq_pow, nq_tn, rd_W, wr_W, nS_eq, nS_ne, Option.bind_some, Option.bind_none, ↓reduceIte, Bool.false_eq_true, Nat.reduceEqDiff, Nat.reduceLT, Nat.reduceLeDiff, Nat.reduceAdd, Nat.reduceMul, Nat.reduceSub, Nat.reducePow, Nat.add_sub_cancel, Nat.zero_le, Nat.not_lt_zero, Nat.le_refl, Nat.lt_irrefl, l_0, l_1, l_2, l_3, l_4, l_5, l_6, l_7, l_8, l_9, l_10, l_13, l_14, l_16, l_20, l_24, l_26, l_30, l_31, l_32, l_48, l_57, l_59, l_63, l_96, l_97, l_100, l_122, l_200, l_255, l_256, l_270, l_400, l_429, l_526, l_780, l_800, l_926, l_1726, l_12082]
  rw [m_writes fu (by omega) g hm.1 (by omega) (g 5 - 1) r2]
  simp only [Option.bind_some]
  rw [m_writesClear fu (by omega) _ hm2.1 (by omega)]
  simp (disch := first | omega | assumption) only [nq_neg, nq_fix, nq_sub1, nq_addN, nq_add, nq_mul, nq_sub, nq_ltN, nq_Nlt, nq_leN, nq_Nle, nq_lt, nq_le, nq_eq, nq_div, nq_pow, nq_tn, rd_W, wr_W, nS_eq, nS_ne, Option.bind_some, Option.bind_none, ↓reduceIte, Bool.false_eq_true, Nat.reduceEqDiff, Nat.reduceLT, Nat.reduceLeDiff, Nat.reduceAdd, Nat.reduceMul, Nat.reduceSub, Nat.reducePow, Nat.add_sub_cancel, Nat.zero_le, Nat.not_lt_zero, Nat.le_refl, Nat.lt_irrefl, l_0, l_1, l_2, l_3, l_4, l_5, l_6, l_7, l_8, l_9, l_10, l_13, l_14, l_16, l_20, l_24, l_26, l_30, l_31, l_32, l_48, l_57, l_59, l_63, l_96, l_97, l_100, l_122, l_200, l_255, l_256, l_270, l_400, l_429, l_526, l_780, l_800, l_926, l_1726, l_12082]
theorem gEA_at {g : Nat → Nat} (g5 : g 5 ≠ 0) : gEA g 0 = g 0 ∧ gEA g 1 = g 1 ∧ gEA g 2 = g 2 ∧ gEA g 3 = g 3 ∧ gEA g 4 = g 0 + 1 ∧ gEA g 5 = 0 ∧ gEA g 6 = g 6 ∧ gEA g 7 = g 7 + 2 ∧ gEA g 8 = g 8 + 1 ∧ gEA g 9 = g 7 + 2 ∧ gEA g 13 = g 13 + (gph g (g 5 - 1)).length ∧ (∀ k, 14 ≤ k → k < 926 → gEA g k = g k) ∧ (∀ i, i < g 7 → gcd_ (gEA g) i = gcd_ g i) ∧ gcd_ (gEA g) (g 7) = g 5 - 1 ∧ gcd_ (gEA g) (g 7 + 1) = g 0 := by
  obtain ⟨e0, e1, e2, e3, e4, e5, e6, e7, e8, e9, e13⟩ := gWr_at g (g 5 - 1)
  obtain ⟨f0, f1, f2, f3, f4, f5, f6, f7, f8, f9, f13⟩ := gWC_at (gWr g (g 5 - 1))
  have hc5 : ∀ (q : Nat → Nat) (i : Nat), gcd_ (nS q 5 0) i = gcd_ q i := fun q i => congrFun (g5_sm q 0).2.2.2 i
  have n := fun k (hk : k ≠ 5) => nS_ne (gWC (gWr g (g 5 - 1))) 5 0 k hk
  unfold gEA
  refine ⟨by rw [n 0 (by omega)]; omega, by rw [n 1 (by omega)]; omega, by rw [n 2 (by omega)]; omega, by rw [n 3 (by omega)]; omega, by rw [n 4 (by omega)]; omega, nS_eq _ _ _, by rw [n 6 (by omega)]; omega, by rw [n 7 (by omega)]; omega, by rw [n 8 (by omega)]; omega, by rw [n 9 (by omega)]; omega, by rw [n 13 (by omega)]; omega, fun k h1 h2 => ?_, fun i hi => ?_, ?_, ?_⟩
  · rw [n k (by omega), gWC_hi _ k (by omega) (by omega), gWr_lo g _ k h1 h2]
  · rw [hc5, (gWC_old _ i (by omega)).1, (gWr_old g _ i hi).1]
  · rw [hc5, (gWC_old _ _ (by omega)).1, (gWr_new g _).1]
  · rw [hc5, ← e7, (gWC_new _).1, e0]
theorem GOOD_EA {g : Nat → Nat} (h : GOOD g) (h5 : g 5 ≠ 0) : GOOD (gEA g) := by
  obtain ⟨hw, hsync, hcur⟩ := h
  obtain ⟨r1, r2, r3, r4, r5⟩ := wr_room hw h5
  obtain ⟨w, h5b, h50, h6, h7, hcov, hsy⟩ := (WB_iff g).mp hw
  obtain ⟨e0, e1, e2, e3, e4, e5, e6, e7, e8, e9, e13, ek, ec, ec1, ec2⟩ := gEA_at h5
  have w1 := W1_Wr w (by omega) r2
  have w2 := W1_WC w1 (by rw [(gWr_at g (g 5 - 1)).2.2.2.2.2.2.2.1]; omega)
  have hglc : glc (gEA g) = 0 := if_pos e5
  refine ⟨(WB_iff _).mpr ⟨W1_5 w2 0, by omega, by omega, by omega, by omega, by omega, fun i hi => ?_⟩, fun P0 L0 => ?_, fun hx => absurd e5 hx⟩
  · rw [e6] at hi
    rw [ek _ (by omega) (by omega), e0]; exact hsy i hi
  · obtain ⟨n, P, L, pv, a, b⟩ := hsync P0 L0
    obtain ⟨P', L', a2, b2⟩ := dTk_wr hw h5 b
    refine ⟨g 0 + 1, P', L', 4294967295, ?_, ?_, Or.inl ⟨rfl, by omega, by omega⟩⟩
    · rw [e0, e1, e7, e13, r5]
      have hs : syl (gEA g) (g 6) = syl g (g 6) := syl_congr _ fun i hi => ek _ (by omega) (by omega)
      rw [hs]
      show (((dRun (g 0) (2 ^ g 1) P0 L0 (gcd_ (gEA g)) (g 7)).bind fun d => dTk (g 0) (2 ^ g 1) d (gcd_ (gEA g) (g 7))).bind fun d => dTk (g 0) (2 ^ g 1) d (gcd_ (gEA g) (g 7 + 1))) = _
      rw [dRun_congr (g 7) ec, a, ec1, ec2]
      show ((dTk (g 0) (2 ^ g 1) (n, P, L, pv, syl g (g 13)) (g 5 - 1)).bind fun d => dTk (g 0) (2 ^ g 1) d (g 0)) = _
      rw [a2, CUR_out hw hcur h5]
      exact dTk_z (g 0) (2 ^ g 1) (g 4, P', L', g 5 - 1, syl g (g 6))
    · rw [e0]
      exact fun k h1 h2 => by omega
def gSt (g : Nat → Nat) : Nat → Nat := nS (nS (nS (nS (nS (nS (gCA g) 5 0) 6 0) 7 0) 8 0) 9 0) 13 0
theorem m_starts (g : Nat → Nat) : J_X8_starts (nW g) = some (nW (gSt g)) := by
  unfold J_X8_starts gSt
  rw [m_clearsAll]
  simp (disch := first | omega | assumption) only [nq_neg, nq_fix, nq_sub1, nq_addN, nq_add, nq_mul, nq_sub, nq_ltN, nq_Nlt, nq_leN, nq_Nle, nq_lt, nq_le, nq_eq, nq_div, nq_pow, nq_tn, rd_W, wr_W, nS_eq, nS_ne, Option.bind_some, Option.bind_none, ↓reduceIte, Bool.false_eq_true, Nat.reduceEqDiff, Nat.reduceLT, Nat.reduceLeDiff, Nat.reduceAdd, Nat.reduceMul, Nat.reduceSub, Nat.reducePow, Nat.add_sub_cancel, Nat.zero_le, Nat.not_lt_zero, Nat.le_refl, Nat.lt_irrefl, l_0, l_1, l_2, l_3, l_4, l_5, l_6, l_7, l_8, l_9, l_10, l_13, l_14, l_16, l_20, l_24, l_26, l_30, l_31, l_32, l_48, l_57, l_59, l_63, l_96, l_97, l_100, l_122, l_200, l_255, l_256, l_270, l_400, l_429, l_526, l_780, l_800, l_926, l_1726, l_12082]
theorem gSt_at (g : Nat → Nat) : gSt g 0 = g 0 ∧ gSt g 1 = g 1 ∧ gSt g 2 = g 2 ∧ gSt g 3 = g 3 ∧ gSt g 4 = g 0 + 1 ∧ gSt g 5 = 0 ∧ gSt g 6 = 0 ∧ gSt g 7 = 0 ∧ gSt g 8 = 0 ∧ gSt g 9 = 0 ∧ gSt g 13 = 0 := by
  unfold gSt gCA
  refine ⟨?_, ?_, ?_, ?_, ?_, ?_, ?_, ?_, ?_, ?_, ?_⟩ <;> simp (disch := omega) only [nS_eq, nS_ne]
def SET (g : Nat → Nat) : Prop := 2 ≤ g 0 ∧ g 0 ≤ 26 ∧ 3 ≤ g 1 ∧ g 1 ≤ 8 ∧ g 0 + 2 ≤ 2 ^ g 1 ∧ g 2 ≤ 2 ∧ 1 ≤ g 3 ∧ g 3 ≤ 200
theorem SET_of {g : Nat → Nat} (h : WB g) : SET g := by
  obtain ⟨w, h5b, h50, h6, h7, hcov, hsy⟩ := (WB_iff g).mp h
  obtain ⟨hm, hq, h2, h31, h3, h8, hcw⟩ := w
  obtain ⟨⟨hz2, h0, hw3, h1, hz, h4b⟩, wd, ud⟩ := id hm.1
  exact ⟨hz2, h0, hw3, h1, hq, h2, h31, h3⟩
/-- nothing encoded and nothing written yet -/
theorem GOOD_new {g : Nat → Nat} (h : SET g) (e4 : g 4 = g 0 + 1) (e5 : g 5 = 0) (e6 : g 6 = 0) (e7 : g 7 = 0) (e8 : g 8 = 0) (e9 : g 9 = 0) (e13 : g 13 = 0) : GOOD g := by
  obtain ⟨a1, a2, a3, a4, a5, a6, a7, a8⟩ := h
  have hglc : glc g = 0 := if_pos e5
  refine ⟨(WB_iff _).mpr ⟨⟨⟨⟨⟨a1, a2, a3, a4, by omega, by omega⟩, fun k h1 h2 => by omega, fun j k h1 h2 h3 => by omega⟩, by omega, by omega, by omega, fun i hi => by omega, fun i h1 hi => by omega⟩, a5, a6, a7, a8, by omega, fun i hi => by omega⟩, by omega, by omega, by omega, by omega, by omega, fun i hi => by omega⟩, fun P0 L0 => ?_, fun hx => absurd e5 hx⟩
  refine ⟨g 0 + 1, P0, L0, 4294967295, ?_, fun k h1 h2 => by omega, Or.inl ⟨rfl, rfl, e4⟩⟩
  rw [e7, e13]
  rfl
theorem GOOD_St {g : Nat → Nat} (h : WB g) : GOOD (gSt g) := by
  obtain ⟨e0, e1, e2, e3, e4, e5, e6, e7, e8, e9, e13⟩ := gSt_at g
  have hs := SET_of h
  unfold SET at hs
  exact GOOD_new (by unfold SET; rw [e0, e1, e2, e3]; exact hs) (by omega) e5 e6 e7 e8 e9 e13
/-- the rows that agree on their 1726 places -/
def E7 (g' g : Nat → Nat) : Prop := ∀ j, j < 1726 → g' j = g j
theorem E7.DE {g' g : Nat → Nat} (h : E7 g' g) : DE g' g := ⟨h 0 (by omega), h 1 (by omega), h 4 (by omega), fun k _ hk => h k (by omega)⟩
/-- a change that touches the settings at most -/
theorem GOOD_of {g' g : Nat → Nat} (h : GOOD g) (e : ∀ j, j < 1726 → j ≠ 2 → j ≠ 3 → g' j = g j) (h2 : g' 2 ≤ 2) (h31 : 1 ≤ g' 3) (h3 : g' 3 ≤ 200) : GOOD g' := by
  obtain ⟨hw, hsync, hcur⟩ := h
  obtain ⟨w, h5b, h50, h6, h7, hcov, hsy⟩ := (WB_iff g).mp hw
  obtain ⟨hm, hq, _, _, _, h8, hcw⟩ := w
  have h7b := hm.2.2.2.1
  have e' := fun j (hj : j < 2 ∨ 3 < j ∧ j < 1726) => e j (by omega) (by omega) (by omega)
  have hde : DE g' g := ⟨e' 0 (by omega), e' 1 (by omega), e' 4 (by omega), fun k h1 h2 => e' k (by omega)⟩
  have hc : ∀ i, i < g 7 → gcd_ g' i = gcd_ g i ∧ gwd_ g' i = gwd_ g i := fun i hi => by unfold gcd_ gwd_; rw [e' (926 + i) (by omega)]; exact ⟨rfl, rfl⟩
  have ep := (gph_of hm.1 hde).2
  have hglc : glc g' = glc g := by
    unfold glc
    rw [e' 5 (by omega)]
    by_cases h5 : g 5 = 0
    · rw [if_pos h5, if_pos h5]
    · rw [if_neg h5, if_neg h5, ep _ (by omega)]
  have e0 := e' 0 (by omega)
  have e1 := e' 1 (by omega)
  have e4 := e' 4 (by omega)
  have e5 := e' 5 (by omega)
  have e6 := e' 6 (by omega)
  have e7 := e' 7 (by omega)
  have e8 := e' 8 (by omega)
  have e9 := e' 9 (by omega)
  have e13 := e' 13 (by omega)
  refine ⟨(WB_iff _).mpr ⟨⟨MB_of hm hde e7 e9 (fun i hi => e' _ (by omega)), by rw [e0, e1]; exact hq, h2, h31, h3, by omega, fun i hi => ?_⟩, by omega, by omega, by omega, by omega, by omega, fun i hi => ?_⟩, ?_, fun hx => ?_⟩
  · rw [(hc i (by omega)).1, (hc i (by omega)).2]; exact hcw i (by omega)
  · rw [e' _ (by omega), e0]; exact hsy i (by omega)
  · exact Sync_of hw hsync hde (Or.inl e5) (by omega) e7 e13 (fun i hi => e' _ (by omega)) (fun i hi => e' _ (by omega))
  · rw [e5] at hx ⊢
    have hl : (gph g (g 5 - 1)).length ≤ 400 := by
      unfold glc at hcov
      rw [if_neg hx] at hcov
      omega
    have hg13 : g 13 + (gph g (g 5 - 1)).length ≤ 400 := by
      unfold glc at hcov
      rw [if_neg hx] at hcov
      omega
    rw [ep _ (by omega), e13]
    refine (hcur hx).trans (List.map_congr_left fun i hi => ?_)
    have := List.mem_range.mp hi
    exact (e' _ (by omega)).symm
theorem GOOD_E7 {g' g : Nat → Nat} (h : GOOD g) (e : E7 g' g) : GOOD g' := by
  have hs := SET_of h.1
  unfold SET at hs
  exact GOOD_of h (fun j hj _ _ => e j hj) (by rw [e 2 (by omega)]; omega) (by rw [e 3 (by omega)]; omega) (by rw [e 3 (by omega)]; omega)
