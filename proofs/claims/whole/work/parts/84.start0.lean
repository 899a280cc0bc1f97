/-! the start's values -/
abbrev zI : Nat → Int32 := fun _ => 0
abbrev zN : Nat → Nat := fun _ => 0
def g0_ : Nat → Nat := fun j => if j = 0 then 4 else if j = 1 then 4 else if j = 2 then 1 else if j = 3 then 90 else if j = 4 then 5 else 0
theorem m1_ : (-1 : Int32) = nI 4294967295 := by decide
theorem s_EF : EF hE0 := ⟨zN, zN, zN, zN, zN, 0, 0, 0, 0, 0, 4294967295, zN, 0, zN, zN, 0, 0, 0, 0, 0, 0, by unfold hE0; rw [m1_]; rfl⟩
theorem s_HR : HR (mkH (fun _ => hE0) 0 0 0) zN 0 zN zN :=
  ⟨fun _ => hE0, 0, 0, rfl, by omega, by omega, fun i hi => s_EF, ⟨by omega, rfl, rfl⟩, fun i h => absurd h (Nat.not_lt_zero i), fun i hi hk => absurd (show (0 : Nat) = 1 from hk) (by decide)⟩
theorem s_begin (fu : Nat) (hf : 20000 ≤ fu) : ∃ e', J_X2_begin fu hE0 4 4 1 90 = some e' ∧ RE e' g0_ := k_begin fu (by omega) s_EF (g := g0_) (by decide) rfl rfl rfl rfl rfl rfl
theorem s_world : upd (upd (upd (upd (upd zI 0 4) 1 4) 2 1) 3 90) 4 5 = nW g0_ := by
  funext k
  unfold nW g0_ upd
  by_cases h4 : k = 4
  · subst h4; rfl
  · by_cases h3 : k = 3
    · subst h3; rfl
    · by_cases h2 : k = 2
      · subst h2; rfl
      · by_cases h1 : k = 1
        · subst h1; rfl
        · by_cases h0 : k = 0
          · subst h0; rfl
          · simp only [h0, h1, h2, h3, h4, ↓reduceIte]; rfl
theorem s_GOOD : GOOD g0_ := GOOD_new (by unfold SET; decide) rfl rfl rfl rfl rfl rfl rfl
theorem s_OF : OF (mkO (mkD zI zI zI zI zI 0 0 0) (-1) zI 0) := ⟨zN, zN, zN, zN, zN, 0, 0, 0, 4294967295, zN, 0, by rw [m1_]; rfl⟩
theorem s_REL {e' : ES} (he : RE e' g0_) (tx : Nat) : REL ⟨0, -1, 0, zI, zI, e', mkO (mkD zI zI zI zI zI 0 0 0) (-1) zI 0, mkT 0 0 0 0, mkR 0 0 0 0 zI 0, mkS zI 0, mkH (fun _ => hE0) 0 0 0, tx⟩ ⟨zI, 0, -1, 0, upd (upd (upd (upd (upd zI 0 4) 1 4) 2 1) 3 90) 4 5, zI, zI, zI, zI, 0, zI, zI, 0, 0, zI, 0, zI, 0, 0, 0, 0, 0, 0, 0, 0, zI, 0⟩ := by
  rw [s_world]
  exact ⟨0, -1, 0, zI, zI, e', _, _, _, _, _, tx, zI, 0, g0_, zN, zN, zN, zN, 0, zN, zN, 0, 0, zN, 0, zI, 0, 0, 0, 0, 0, 0, 0, zI, 0, zN, rfl, rfl, TP_0 _ _ _, DD_0 _ _, ⟨he, s_GOOD, s_HR⟩, s_OF⟩
