/-! The law -/
theorem sl_in {α : Type} {L i : Nat} {xs : Nat → Int32} {f : Int32 → Option α} (hi : i < L) (hL : L ≤ 2048) : sl L xs (I i) f = f (xs i) := by
  unfold sl
  rw [I_nat (by omega), if_pos ⟨I_pos (by omega), hi⟩]
theorem law_call {Pc Pm : Hp → Option (Int32 × Hp)} (S : Step Pc Pm) {h : Hp} (hI : Inv h) {K : Hp → Option (Int32 × Hp)} (hK : ∀ h2, Inv h2 → ∃ h', K h2 = some (1, h')) :
    ∃ h', (rc h 0 5 <| ci (Pc h) fun v4 h2 => rc h2 24 6 <| ci (Pm h2) fun v6 h3 => if v4 = v6 then K h3 else some (0, h3)) = some (1, h') := by
  obtain ⟨r, h1, h2, e1, e2, F1, I2⟩ := S h hI
  obtain ⟨σ, im, n, t, ρ, G, C, M⟩ := id hI
  obtain ⟨h', k⟩ := hK h2 I2
  refine ⟨h', ?_⟩
  rw [rc_0 C.1, e1, ci_some, rc_24 F1, e2, ci_some, if_pos rfl, k]
theorem law_end {L j : Nat} (hL : L ≤ 2048) (hj : j ≤ 600) : (Int32.ofNat L - 4 < I (4 * j)) ↔ L < 4 * j + 4 := by
  show (I L - I 4 < I (4 * j)) ↔ _
  by_cases h : 4 ≤ L
  · rw [I_sub h, I_ltI (by omega) (by omega)]
    omega
  · refine ⟨fun _ => by omega, fun _ => ?_⟩
    rw [Int32.lt_iff_toInt_lt, I_int (show 4 * j < 2147483648 by omega)]
    have : L = 0 ∨ L = 1 ∨ L = 2 ∨ L = 3 := by omega
    have e0 : (I 0 - I 4).toInt = -4 := by decide
    have e1 : (I 1 - I 4).toInt = -3 := by decide
    have e2 : (I 2 - I 4).toInt = -2 := by decide
    have e3 : (I 3 - I 4).toInt = -1 := by decide
    rcases this with rfl | rfl | rfl | rfl
    · rw [e0]; omega
    · rw [e1]; omega
    · rw [e2]; omega
    · rw [e3]; omega
set_option maxHeartbeats 4000000 in
theorem law_loop {L : Nat} {xs : Nat → Int32} (hL : L ≤ 2048) : ∀ (k j m : Nat) (h : Hp), L < 4 * (j + k + 1) → j + k ≤ 512 → k < m → Inv h → ∃ h', P_L_law_L18 L xs m 0 24 (I (4 * j)) h = some (1, h') := by
  intro k
  induction k with
  | zero =>
    intro j m h hj hj2 hm hI
    obtain ⟨m, rfl⟩ : ∃ m', m = m' + 1 := ⟨m - 1, by omega⟩
    refine ⟨h, ?_⟩
    unfold P_L_law_L18
    rw [if_pos ((law_end hL (by omega)).mpr (by omega))]
  | succ k ih =>
    intro j m h hj hj2 hm hI
    obtain ⟨m, rfl⟩ : ∃ m', m = m' + 1 := ⟨m - 1, by omega⟩
    by_cases hstop : L < 4 * j + 4
    · refine ⟨h, ?_⟩
      unfold P_L_law_L18
      rw [if_pos ((law_end hL (by omega)).mpr hstop)]
    · have e4 : I (4 * j) + 4 = I (4 * (j + 1)) := I_add (4 * j) 4
      have kk : ∀ h2, Inv h2 → ∃ h', (lt ((I (4 * j) + 4 : Int32)) fun v7 => P_L_law_L18 L xs m 0 24 v7 h2) = some (1, h') := fun h2 I2 => by
        rw [lt_eq, e4]
        exact ih (j + 1) m h2 (by omega) (by omega) (by omega) I2
      have q0 : ∀ {f : Int32 → Option (Int32 × Hp)}, sl L xs (I (4 * j)) f = f (xs (4 * j)) := sl_in (by omega) hL
      have q1 : ∀ {f : Int32 → Option (Int32 × Hp)}, sl L xs (I (4 * j) + 1) f = f (xs (4 * j + 1)) := by
        intro f
        rw [show I (4 * j) + 1 = I (4 * j + 1) from I_add (4 * j) 1]
        exact sl_in (by omega) hL
      have q2 : ∀ {f : Int32 → Option (Int32 × Hp)}, sl L xs (I (4 * j) + 2) f = f (xs (4 * j + 2)) := by
        intro f
        rw [show I (4 * j) + 2 = I (4 * j + 2) from I_add (4 * j) 2]
        exact sl_in (by omega) hL
      have q3 : ∀ {f : Int32 → Option (Int32 × Hp)}, sl L xs (I (4 * j) + 3) f = f (xs (4 * j + 3)) := by
        intro f
        rw [show I (4 * j) + 3 = I (4 * j + 3) from I_add (4 * j) 3]
        exact sl_in (by omega) hL
      unfold P_L_law_L18
      rw [if_neg (fun z => hstop ((law_end hL (by omega)).mp z)), q0]
      simp only [q1, q2, q3]
      by_cases c0 : (xs (4 * j) &&& 31) = 0
      · rw [if_pos c0]
        exact law_call (s_letter _) hI kk
      rw [if_neg c0]
      by_cases c1 : (xs (4 * j) &&& 31) = 1
      · rw [if_pos c1]
        exact law_call s_house hI kk
      rw [if_neg c1]
      by_cases c2 : (xs (4 * j) &&& 31) = 2
      · rw [if_pos c2]
        exact law_call (s_door _ _) hI kk
      rw [if_neg c2]
      by_cases c3 : (xs (4 * j) &&& 31) = 3
      · rw [if_pos c3]
        exact law_call (s_person _ _) hI kk
      rw [if_neg c3]
      by_cases c4 : (xs (4 * j) &&& 31) = 4
      · rw [if_pos c4]
        exact law_call (s_go _) hI kk
      rw [if_neg c4]
      by_cases c5 : (xs (4 * j) &&& 31) = 5
      · rw [if_pos c5]
        exact law_call (s_turn _) hI kk
      rw [if_neg c5]
      by_cases c6 : (xs (4 * j) &&& 31) = 6
      · rw [if_pos c6]
        exact law_call s_state hI kk
      rw [if_neg c6]
      by_cases c7 : (xs (4 * j) &&& 31) = 7
      · rw [if_pos c7]
        exact law_call s_wished hI kk
      rw [if_neg c7]
      by_cases c8 : (xs (4 * j) &&& 31) = 8
      · rw [if_pos c8]
        exact law_call (s_way _ _ _) hI kk
      rw [if_neg c8]
      by_cases c9 : (xs (4 * j) &&& 31) = 9
      · rw [if_pos c9]
        exact law_call s_can hI kk
      rw [if_neg c9]
      by_cases c10 : (xs (4 * j) &&& 31) = 10
      · rw [if_pos c10]
        exact law_call s_fewest hI kk
      rw [if_neg c10]
      by_cases c11 : (xs (4 * j) &&& 31) = 11
      · rw [if_pos c11]
        exact law_call s_cheapest hI kk
      rw [if_neg c11]
      by_cases c12 : (xs (4 * j) &&& 31) = 12
      · rw [if_pos c12]
        exact law_call (s_how _) hI kk
      rw [if_neg c12]
      by_cases c13 : (xs (4 * j) &&& 31) = 13
      · rw [if_pos c13]
        exact law_call s_nothing hI kk
      rw [if_neg c13]
      by_cases c14 : (xs (4 * j) &&& 31) = 14
      · rw [if_pos c14]
        exact law_call s_states hI kk
      rw [if_neg c14]
      by_cases c15 : (xs (4 * j) &&& 31) = 15
      · rw [if_pos c15]
        exact law_call (s_keys _) hI kk
      rw [if_neg c15]
      by_cases c16 : (xs (4 * j) &&& 31) = 16
      · rw [if_pos c16]
        exact law_call s_been hI kk
      rw [if_neg c16]
      by_cases c17 : (xs (4 * j) &&& 31) = 17
      · rw [if_pos c17]
        exact law_call s_sure hI kk
      rw [if_neg c17]
      by_cases c18 : (xs (4 * j) &&& 31) = 18
      · rw [if_pos c18]
        exact law_call (s_forEver _) hI kk
      rw [if_neg c18]
      by_cases c19 : (xs (4 * j) &&& 31) = 19
      · rw [if_pos c19]
        exact law_call (s_nth _) hI kk
      rw [if_neg c19]
      by_cases c20 : (xs (4 * j) &&& 31) = 20
      · rw [if_pos c20]
        exact law_call (s_open _) hI kk
      rw [if_neg c20]
      by_cases c21 : (xs (4 * j) &&& 31) = 21
      · rw [if_pos c21]
        exact law_call (s_log _) hI kk
      rw [if_neg c21]
      by_cases c22 : (xs (4 * j) &&& 31) = 22
      · rw [if_pos c22]
        exact law_call (s_order _) hI kk
      rw [if_neg c22]
      by_cases c23 : (xs (4 * j) &&& 31) = 23
      · rw [if_pos c23]
        exact law_call s_fills hI kk
      rw [if_neg c23]
      by_cases c24 : (xs (4 * j) &&& 31) = 24
      · rw [if_pos c24]
        exact law_call (s_run _) hI kk
      rw [if_neg c24]
      by_cases c25 : (xs (4 * j) &&& 31) = 25
      · rw [if_pos c25]
        exact law_call s_judge hI kk
      rw [if_neg c25]
      by_cases c26 : (xs (4 * j) &&& 31) = 26
      · rw [if_pos c26]
        exact law_call s_clear hI kk
      rw [if_neg c26]
      by_cases c27 : (xs (4 * j) &&& 31) = 27
      · rw [if_pos c27]
        exact law_call s_match hI kk
      rw [if_neg c27]
      by_cases c28 : (xs (4 * j) &&& 31) = 28
      · rw [if_pos c28]
        exact law_call (s_seeds _ _) hI kk
      rw [if_neg c28]
      by_cases c29 : (xs (4 * j) &&& 31) = 29
      · rw [if_pos c29]
        exact law_call s_image hI kk
      rw [if_neg c29]
      by_cases c30 : (xs (4 * j) &&& 31) = 30
      · rw [if_pos c30]
        exact law_call s_on hI kk
      rw [if_neg c30]
      by_cases c31 : (xs (4 * j) &&& 31) = 31
      · rw [if_pos c31]
        exact law_call (s_count _) hI kk
      rw [if_neg c31]
      exact kk h hI
theorem law_one (L : Nat) (xs : Nat → Int32) (hL : L ≤ 2048) : ∃ h', P_L_law L xs hp0 = some (1, h') := by
  obtain ⟨h', x1, x2, x3⟩ := i_X6
  have E7 := i_X5.2
  obtain ⟨h2, r⟩ := law_loop (xs := xs) hL 512 0 513 h' (by omega) (by omega) (by omega) (inv_0 x2 x3)
  refine ⟨h2, ?_⟩
  unfold P_L_law
  show (nw (0, (fun _ _ => (0 : Int32)), Rm0) 5 fun q1 h1 => cv (P_X5_init q1 h1) fun h2 => nw h2 6 fun q2 h3 => cv (P_X6_init q2 h3) fun h4 => lt (0 : Int32) fun v1 => P_L_law_L18 L xs 513 q1 q2 v1 h4) = _
  rw [nw_c (by rfl) (fun _ => rfl) (fun _ => rfl)]
  show (cv (P_X5_init 0 (1, (fun _ _ => (0 : Int32)), Rm0)) fun h2 => nw h2 6 fun q2 h3 => cv (P_X6_init q2 h3) fun h4 => lt (0 : Int32) fun v1 => P_L_law_L18 L xs 513 0 q2 v1 h4) = _
  rw [i_X5.1, cv_some, nw_c (by rfl) (fun j => E7.1 24 j (Nat.le_refl _)) (fun j => E7.2 24 j (Nat.le_refl _))]
  show (cv (P_X6_init 24 (25, Zc, Rm7)) fun h4 => lt (0 : Int32) fun v1 => P_L_law_L18 L xs 513 0 24 v1 h4) = _
  rw [x1, cv_some, lt_eq]
  exact r
