/-- the heads, one after the other -/
theorem c_stmt {t : Nat → Nat} {n i : Nat} {hd : Int32} {h : Hp} (hn : n ≤ 64) (ht : ∀ i, i < n → t i ≤ 255) (T0 : TC t n hd h) (ha : h.2.1 1 2 = I i) (hi : i ≤ 64) : OUT A3 (TC t n (sg t n i)) 1 2 (P_X3_readStatement 1 h) h (rsS t n i) (DTc t n i) := by
  have F := T0.1
  have hs := c_sign hn T0 ha (by omega)
  let h3 : Hp := setI (setI h 1 3 (sg t n i)) 1 6 (I 0)
  have z3 : setI (setI h 1 3 (sg t n i)) 1 6 (I 0) = h3 := rfl
  have F3 : FX h3 := F
  have A0 : FxA A3 h h3 := (FxA.set (by decide)).tr (FxA.set (by decide))
  have T : TC t n (sg t n i) h3 := by
    refine ⟨F3, ?_, fun j hj => ?_, ?_⟩
    · rw [← z3, setI_at, if_neg (by decide), setI_at, if_neg (by decide)]
      exact T0.2.1
    · rw [← z3, setI_ne (by decide), setI_ne (by decide)]
      exact T0.2.2.1 j hj
    · rw [← z3, setI_at, if_neg (by decide), setI_at, if_pos ⟨rfl, rfl⟩]
  have a3 : h3.2.1 1 2 = I i := by
    rw [← z3, setI_at, if_neg (by decide), setI_at, if_neg (by decide)]
    exact ha
  have e6 : h3.2.1 1 6 = I 0 := by rw [← z3, setI_at, if_pos ⟨rfl, rfl⟩]
  have no : ∀ (c : Nat) (x : Int32), c < 256 → x = I c → ¬ (i < n ∧ t i = c) → P_X3_takes 1 x h3 = some (I 0, h3) := fun c x hc hx hno => c_takes_no hn ht T a3 (by omega) hc hx (by
    cases hb : isc t n i c
    · rfl
    · exact absurd (isc_iff.mp hb) hno)
  have yes : ∀ (c : Nat) (x : Int32), c < 256 → x = I c → (i < n ∧ t i = c) → P_X3_takes 1 x h3 = some (I 1, setI h3 1 2 (I (i + 1))) := fun c x hc hx hy => c_takes_yes hn ht T a3 (by omega) hc hx (isc_iff.mpr hy)
  have F4 : FX (setI h3 1 2 (I (i + 1))) := F
  have T4 : TC t n (sg t n i) (setI h3 1 2 (I (i + 1))) := TC_at T (by decide)
  have a4 : (setI h3 1 2 (I (i + 1))).2.1 1 2 = I (i + 1) := by rw [setI_at, if_pos ⟨rfl, rfl⟩]
  have e64 : (setI h3 1 2 (I (i + 1))).2.1 1 6 = I 0 := by rw [setI_at, if_neg (by decide)]; exact e6
  have A4 : FxA A3 h (setI h3 1 2 (I (i + 1))) := A0.tr (FxA.set (by decide))
  have z0 : (I 0 : Int32) = 0 := rfl
  have z1 : ¬ (I 1 : Int32) = 0 := by decide
  unfold P_X3_readStatement rsS
  rw [rc_1 F, hs, ci_some, pi_1 F, pi_1 (FX_setI F), show (0 : Int32) = I 0 from rfl, z3]
  by_cases h1 : i < n ∧ t i = 110
  · rw [if_neg (fun z => by omega), if_pos ⟨h1.1, by rw [h1.2]; decide⟩, rc_1 F3, yes 110 110 (by decide) rfl h1, ci_some, if_neg (show ¬ I 1 = I 0 by decide)]
    exact OUT_pre A4 (by
      have := c_rsD (mm := 2) (x := 2) (y := 59) hn ht T4 a4 (by omega) e64 (by decide) rfl rfl (by rw [h1.2]; rfl) (by decide)
      rw [h1.2]
      exact this)
  rw [rc_1 F3, no 110 110 (by decide) rfl h1, ci_some, if_pos (show I 0 = I 0 from rfl)]
  by_cases h2 : i < n ∧ t i = 115
  · rw [if_neg (fun z => by omega), if_pos ⟨h2.1, by rw [h2.2]; decide⟩, rc_1 F3, yes 115 115 (by decide) rfl h2, ci_some, if_neg (show ¬ I 1 = I 0 by decide)]
    exact OUT_pre A4 (by
      have := c_rsD (mm := 2) (x := 2) (y := 59) hn ht T4 a4 (by omega) e64 (by decide) rfl rfl (by rw [h2.2]; rfl) (by decide)
      rw [h2.2]
      exact this)
  rw [rc_1 F3, no 115 115 (by decide) rfl h2, ci_some, if_pos (show I 0 = I 0 from rfl)]
  by_cases h4 : i < n ∧ t i = 107
  · rw [if_neg (fun z => by omega), if_pos ⟨h4.1, by rw [h4.2]; decide⟩, rc_1 F3, yes 107 107 (by decide) rfl h4, ci_some, if_neg (show ¬ I 1 = I 0 by decide)]
    exact OUT_pre A4 (by
      have := c_rsD (mm := 1) (x := 1) (y := 59) hn ht T4 a4 (by omega) e64 (by decide) rfl rfl (by rw [h4.2]; rfl) (by decide)
      rw [h4.2]
      exact this)
  rw [rc_1 F3, no 107 107 (by decide) rfl h4, ci_some, if_pos (show I 0 = I 0 from rfl)]
  by_cases h5 : i < n ∧ t i = 119
  · rw [if_neg (fun z => by omega), if_pos ⟨h5.1, by rw [h5.2]; decide⟩, rc_1 F3, yes 119 119 (by decide) rfl h5, ci_some, if_neg (show ¬ I 1 = I 0 by decide)]
    exact OUT_pre A4 (by
      have := c_rsD (mm := 12) (x := 12) (y := 59) hn ht T4 a4 (by omega) e64 (by decide) rfl rfl (by rw [h5.2]; rfl) (by decide)
      rw [h5.2]
      exact this)
  rw [rc_1 F3, no 119 119 (by decide) rfl h5, ci_some, if_pos (show I 0 = I 0 from rfl)]
  by_cases h6 : i < n ∧ t i = 104
  · rw [if_neg (fun z => by omega), if_pos ⟨h6.1, by rw [h6.2]; decide⟩, rc_1 F3, yes 104 104 (by decide) rfl h6, ci_some, if_neg (show ¬ I 1 = I 0 by decide)]
    exact OUT_pre A4 (by
      have := c_rsD (mm := 12) (x := 12) (y := 59) hn ht T4 a4 (by omega) e64 (by decide) rfl rfl (by rw [h6.2]; rfl) (by decide)
      rw [h6.2]
      exact this)
  rw [rc_1 F3, no 104 104 (by decide) rfl h6, ci_some, if_pos (show I 0 = I 0 from rfl)]
  by_cases h7 : i < n ∧ t i = 112
  · rw [if_pos h7, rc_1 F3, yes 112 112 (by decide) rfl h7, ci_some, if_neg (show ¬ I 1 = I 0 by decide)]
    exact OUT_pre A4 (c_rsP hn ht T4 a4 (by omega) e64 rfl rfl rfl rfl rfl rfl h7.2)
  have hz : ¬ (i < n ∧ 0 < hds (t i)) := fun ⟨y1, y2⟩ => by
    unfold hds at y2
    rw [if_neg (by omega), if_neg (by omega), if_neg (by omega)] at y2
    omega
  rw [if_neg h7, if_neg hz, rc_1 F3, no 112 112 (by decide) rfl h7, ci_some, if_pos (show I 0 = I 0 from rfl)]
  exact ⟨h3, rfl, A0, T, a3, fun z => by cases z⟩
