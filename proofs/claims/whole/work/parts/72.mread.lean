/-! The model's reader -/
def TM (t : Nat → Nat) (n : Nat) (x4 : Int32) (h : Hp) : Prop := FX h ∧ h.2.1 24 7 = I n ∧ (∀ i, i < n → h.2.1 29 i = I (t i)) ∧ h.2.1 24 4 = x4
def A2 : List Nat := [24, 30]
theorem TM_at {t : Nat → Nat} {n : Nat} {x4 : Int32} {h : Hp} (T : TM t n x4 h) {k : Nat} {v : Int32} (hk : k ≠ 7 ∧ k ≠ 4) : TM t n x4 (setI h 24 k v) := by
  obtain ⟨F, k1, k2, k3⟩ := T
  exact ⟨FX_setI F, by rw [setI_at, if_neg (fun z => hk.1 z.2.symm)]; exact k1, fun i hi => by rw [setI_ne (by decide)]; exact k2 i hi, by rw [setI_at, if_neg (fun z => hk.2 z.2.symm)]; exact k3⟩
theorem TM_ne {t : Nat → Nat} {n : Nat} {x4 : Int32} {h : Hp} (T : TM t n x4 h) {p k : Nat} {v : Int32} (hp : p ≠ 24 ∧ p ≠ 29) : TM t n x4 (setI h p k v) := by
  obtain ⟨F, k1, k2, k3⟩ := T
  exact ⟨FX_setI F, by rw [setI_ne (fun z => hp.1 z.symm)]; exact k1, fun i hi => by rw [setI_ne (fun z => hp.2 z.symm)]; exact k2 i hi, by rw [setI_ne (fun z => hp.1 z.symm)]; exact k3⟩
theorem m_sign {t : Nat → Nat} {n i : Nat} {x4 : Int32} {h : Hp} (hn : n ≤ 64) (T : TM t n x4 h) (ha : h.2.1 24 8 = I i) (hi : i < 1000) : P_X6_sign 24 h = some (sg t n i, h) := by
  obtain ⟨F, k1, k2, k3⟩ := T
  unfold P_X6_sign sg
  by_cases h1 : i < n
  · have h2 := k2 i h1
    simp (disch := first | assumption | exact FX_setI ‹_› | exact FX_setI (FX_setI ‹_›) | exact FX_setI (FX_setI (FX_setI ‹_›)) | exact FX_setI (FX_setI (FX_setI (FX_setI ‹_›))) | omega) only [gr_0_0, gr_0_1, gr_0_2, gr_0_3, gr_0_4, gr_0_5, gr_0_6, gr_0_7, gr_1_0, gr_1_5, gr_1_7, gr_5_3, gr_5_9, gr_8_3, gr_8_9, gr_11_3, gr_11_9, gr_14_0, gr_14_1, gr_14_2, gr_18_0, gr_18_1, gr_18_2, gr_24_0, gr_24_1, gr_24_2, gr_24_3, gr_24_5, gr_24_6, gr_24_10, gr_24_11, gr_24_12, gr_24_15, al_2, al_3, al_4, al_7, al_10, al_13, al_15, al_16, al_17, al_19, al_20, al_21, al_22, al_23, al_25, al_26, al_27, al_28, al_29, al_30, al_31, al_32, al_33, al_34, as_2, as_3, as_4, as_7, as_10, as_13, as_15, as_16, as_17, as_19, as_20, as_21, as_22, as_23, as_25, as_26, as_27, as_28, as_29, as_30, as_31, as_32, as_33, as_34, gi_0, gi_1, gi_5, gi_8, gi_11, gi_14, gi_18, gi_24, pi_0, pi_1, pi_5, pi_8, pi_11, pi_14, pi_18, pi_24, rc_0, rc_1, rc_5, rc_8, rc_11, rc_14, rc_18, rc_24, ln_2, ln_3, ln_4, ln_7, ln_10, ln_13, ln_15, ln_16, ln_17, ln_19, ln_20, ln_21, ln_22, ln_23, ln_25, ln_26, ln_27, ln_28, ln_29, ln_30, ln_31, ln_32, ln_33, ln_34, ln_6, ln_9, ln_12, ciN, cvN, lt_eq, nn_none, nn_some, setI_1, setI_at, setI_R, upd2_at, I_add, I_addn, Int32.neg_neg, I_mul, I_ltI, I_leI, I_eqI, I_nat, if_true, if_false, reduceIte, reduceIteN, I_difn, bz_0, bz_1, nz_I, I_rem, I_div, I_sub, l4095, l32, l63, l0, l1, l2, l3, l4, l5, l6, l7, l8, l9, l10, l11, l12, l16, l24, l28, l31, l40, l48, l57, l64, l68, l78, l79, l99, l255, l2000, l2187, l1000000000, ha, k1, h2]
  · simp (disch := first | assumption | exact FX_setI ‹_› | exact FX_setI (FX_setI ‹_›) | exact FX_setI (FX_setI (FX_setI ‹_›)) | exact FX_setI (FX_setI (FX_setI (FX_setI ‹_›))) | omega) only [gr_0_0, gr_0_1, gr_0_2, gr_0_3, gr_0_4, gr_0_5, gr_0_6, gr_0_7, gr_1_0, gr_1_5, gr_1_7, gr_5_3, gr_5_9, gr_8_3, gr_8_9, gr_11_3, gr_11_9, gr_14_0, gr_14_1, gr_14_2, gr_18_0, gr_18_1, gr_18_2, gr_24_0, gr_24_1, gr_24_2, gr_24_3, gr_24_5, gr_24_6, gr_24_10, gr_24_11, gr_24_12, gr_24_15, al_2, al_3, al_4, al_7, al_10, al_13, al_15, al_16, al_17, al_19, al_20, al_21, al_22, al_23, al_25, al_26, al_27, al_28, al_29, al_30, al_31, al_32, al_33, al_34, as_2, as_3, as_4, as_7, as_10, as_13, as_15, as_16, as_17, as_19, as_20, as_21, as_22, as_23, as_25, as_26, as_27, as_28, as_29, as_30, as_31, as_32, as_33, as_34, gi_0, gi_1, gi_5, gi_8, gi_11, gi_14, gi_18, gi_24, pi_0, pi_1, pi_5, pi_8, pi_11, pi_14, pi_18, pi_24, rc_0, rc_1, rc_5, rc_8, rc_11, rc_14, rc_18, rc_24, ln_2, ln_3, ln_4, ln_7, ln_10, ln_13, ln_15, ln_16, ln_17, ln_19, ln_20, ln_21, ln_22, ln_23, ln_25, ln_26, ln_27, ln_28, ln_29, ln_30, ln_31, ln_32, ln_33, ln_34, ln_6, ln_9, ln_12, ciN, cvN, lt_eq, nn_none, nn_some, setI_1, setI_at, setI_R, upd2_at, I_add, I_addn, Int32.neg_neg, I_mul, I_ltI, I_leI, I_eqI, I_nat, if_true, if_false, reduceIte, reduceIteN, I_difn, bz_0, bz_1, nz_I, I_rem, I_div, I_sub, l4095, l32, l63, l0, l1, l2, l3, l4, l5, l6, l7, l8, l9, l10, l11, l12, l16, l24, l28, l31, l40, l48, l57, l64, l68, l78, l79, l99, l255, l2000, l2187, l1000000000, ha, k1]
theorem m_takes {t : Nat → Nat} {n i c : Nat} {x4 x : Int32} {h : Hp} (hn : n ≤ 64) (ht : ∀ i, i < n → t i ≤ 255) (T : TM t n x4 h) (ha : h.2.1 24 8 = I i) (hi : i < 1000) (hc : c < 256) (hx : x = I c) : OUT A2 (TM t n x4) 24 8 (P_X6_takes 24 x h) h (tkS t n c i) (fun h' => (tkS t n c i).2 = i + 1 ∧ h'.2.1 30 = h.2.1 30 ∧ h'.2.1 24 9 = h.2.1 24 9) := by
  have hs := m_sign hn T ha hi
  have F := T.1
  have hz := sg_is (i := i) ht hc
  rw [hx]
  unfold tkS
  cases hb : isc t n i c
  · have h1 : ¬ sg t n i = I c := fun z => by rw [hz.mp z] at hb; cases hb
    rw [if_neg Bool.false_ne_true]
    refine ⟨h, ?_, FxA.rf, T, ha, fun z => by cases z⟩
    unfold P_X6_takes
    simp (disch := first | assumption | exact FX_setI ‹_› | exact FX_setI (FX_setI ‹_›) | exact FX_setI (FX_setI (FX_setI ‹_›)) | exact FX_setI (FX_setI (FX_setI (FX_setI ‹_›))) | omega) only [gr_0_0, gr_0_1, gr_0_2, gr_0_3, gr_0_4, gr_0_5, gr_0_6, gr_0_7, gr_1_0, gr_1_5, gr_1_7, gr_5_3, gr_5_9, gr_8_3, gr_8_9, gr_11_3, gr_11_9, gr_14_0, gr_14_1, gr_14_2, gr_18_0, gr_18_1, gr_18_2, gr_24_0, gr_24_1, gr_24_2, gr_24_3, gr_24_5, gr_24_6, gr_24_10, gr_24_11, gr_24_12, gr_24_15, al_2, al_3, al_4, al_7, al_10, al_13, al_15, al_16, al_17, al_19, al_20, al_21, al_22, al_23, al_25, al_26, al_27, al_28, al_29, al_30, al_31, al_32, al_33, al_34, as_2, as_3, as_4, as_7, as_10, as_13, as_15, as_16, as_17, as_19, as_20, as_21, as_22, as_23, as_25, as_26, as_27, as_28, as_29, as_30, as_31, as_32, as_33, as_34, gi_0, gi_1, gi_5, gi_8, gi_11, gi_14, gi_18, gi_24, pi_0, pi_1, pi_5, pi_8, pi_11, pi_14, pi_18, pi_24, rc_0, rc_1, rc_5, rc_8, rc_11, rc_14, rc_18, rc_24, ln_2, ln_3, ln_4, ln_7, ln_10, ln_13, ln_15, ln_16, ln_17, ln_19, ln_20, ln_21, ln_22, ln_23, ln_25, ln_26, ln_27, ln_28, ln_29, ln_30, ln_31, ln_32, ln_33, ln_34, ln_6, ln_9, ln_12, ciN, cvN, lt_eq, nn_none, nn_some, setI_1, setI_at, setI_R, upd2_at, I_add, I_addn, Int32.neg_neg, I_mul, I_ltI, I_leI, I_eqI, I_nat, if_true, if_false, reduceIte, reduceIteN, I_difn, bz_0, bz_1, nz_I, I_rem, I_div, I_sub, l4095, l32, l63, l0, l1, l2, l3, l4, l5, l6, l7, l8, l9, l10, l11, l12, l16, l24, l28, l31, l40, l48, l57, l64, l68, l78, l79, l99, l255, l2000, l2187, l1000000000, hs]
    rfl
  · have h1 : sg t n i = I c := hz.mpr hb
    rw [if_pos rfl]
    refine ⟨setI h 24 8 (I (i + 1)), ?_, FxA.set (by decide), TM_at T (by decide), by rw [setI_at, if_pos ⟨rfl, rfl⟩], fun _ => ⟨rfl, setI_ne (by decide), by rw [setI_at, if_neg (by decide)]⟩⟩
    unfold P_X6_takes
    simp (disch := first | assumption | exact FX_setI ‹_› | exact FX_setI (FX_setI ‹_›) | exact FX_setI (FX_setI (FX_setI ‹_›)) | exact FX_setI (FX_setI (FX_setI (FX_setI ‹_›))) | omega) only [gr_0_0, gr_0_1, gr_0_2, gr_0_3, gr_0_4, gr_0_5, gr_0_6, gr_0_7, gr_1_0, gr_1_5, gr_1_7, gr_5_3, gr_5_9, gr_8_3, gr_8_9, gr_11_3, gr_11_9, gr_14_0, gr_14_1, gr_14_2, gr_18_0, gr_18_1, gr_18_2, gr_24_0, gr_24_1, gr_24_2, gr_24_3, gr_24_5, gr_24_6, gr_24_10, gr_24_11, gr_24_12, gr_24_15, al_2, al_3, al_4, al_7, al_10, al_13, al_15, al_16, al_17, al_19, al_20, al_21, al_22, al_23, al_25, al_26, al_27, al_28, al_29, al_30, al_31, al_32, al_33, al_34, as_2, as_3, as_4, as_7, as_10, as_13, as_15, as_16, as_17, as_19, as_20, as_21, as_22, as_23, as_25, as_26, as_27, as_28, as_29, as_30, as_31, as_32, as_33, as_34, gi_0, gi_1, gi_5, gi_8, gi_11, gi_14, gi_18, gi_24, pi_0, pi_1, pi_5, pi_8, pi_11, pi_14, pi_18, pi_24, rc_0, rc_1, rc_5, rc_8, rc_11, rc_14, rc_18, rc_24, ln_2, ln_3, ln_4, ln_7, ln_10, ln_13, ln_15, ln_16, ln_17, ln_19, ln_20, ln_21, ln_22, ln_23, ln_25, ln_26, ln_27, ln_28, ln_29, ln_30, ln_31, ln_32, ln_33, ln_34, ln_6, ln_9, ln_12, ciN, cvN, lt_eq, nn_none, nn_some, setI_1, setI_at, setI_R, upd2_at, I_add, I_addn, Int32.neg_neg, I_mul, I_ltI, I_leI, I_eqI, I_nat, if_true, if_false, reduceIte, reduceIteN, I_difn, bz_0, bz_1, nz_I, I_rem, I_div, I_sub, l4095, l32, l63, l0, l1, l2, l3, l4, l5, l6, l7, l8, l9, l10, l11, l12, l16, l24, l28, l31, l40, l48, l57, l64, l68, l78, l79, l99, l255, l2000, l2187, l1000000000, hs, h1, ha]
    rfl
theorem m_isDigit {t : Nat → Nat} {n i : Nat} {x4 : Int32} {h : Hp} (hn : n ≤ 64) (ht : ∀ i, i < n → t i ≤ 255) (T : TM t n x4 h) (ha : h.2.1 24 8 = I i) (hi : i < 1000) : P_X6_isDigit 24 h = some (bi (isd t n i), h) := by
  have hs := m_sign hn T ha hi
  have F := T.1
  unfold P_X6_isDigit
  unfold sg at hs
  by_cases h1 : i < n
  · have h2 := ht i h1
    rw [if_pos h1] at hs
    by_cases h3 : 48 ≤ t i
    · by_cases h4 : t i ≤ 57
      · simp (disch := first | assumption | exact FX_setI ‹_› | exact FX_setI (FX_setI ‹_›) | exact FX_setI (FX_setI (FX_setI ‹_›)) | exact FX_setI (FX_setI (FX_setI (FX_setI ‹_›))) | omega) only [gr_0_0, gr_0_1, gr_0_2, gr_0_3, gr_0_4, gr_0_5, gr_0_6, gr_0_7, gr_1_0, gr_1_5, gr_1_7, gr_5_3, gr_5_9, gr_8_3, gr_8_9, gr_11_3, gr_11_9, gr_14_0, gr_14_1, gr_14_2, gr_18_0, gr_18_1, gr_18_2, gr_24_0, gr_24_1, gr_24_2, gr_24_3, gr_24_5, gr_24_6, gr_24_10, gr_24_11, gr_24_12, gr_24_15, al_2, al_3, al_4, al_7, al_10, al_13, al_15, al_16, al_17, al_19, al_20, al_21, al_22, al_23, al_25, al_26, al_27, al_28, al_29, al_30, al_31, al_32, al_33, al_34, as_2, as_3, as_4, as_7, as_10, as_13, as_15, as_16, as_17, as_19, as_20, as_21, as_22, as_23, as_25, as_26, as_27, as_28, as_29, as_30, as_31, as_32, as_33, as_34, gi_0, gi_1, gi_5, gi_8, gi_11, gi_14, gi_18, gi_24, pi_0, pi_1, pi_5, pi_8, pi_11, pi_14, pi_18, pi_24, rc_0, rc_1, rc_5, rc_8, rc_11, rc_14, rc_18, rc_24, ln_2, ln_3, ln_4, ln_7, ln_10, ln_13, ln_15, ln_16, ln_17, ln_19, ln_20, ln_21, ln_22, ln_23, ln_25, ln_26, ln_27, ln_28, ln_29, ln_30, ln_31, ln_32, ln_33, ln_34, ln_6, ln_9, ln_12, ciN, cvN, lt_eq, nn_none, nn_some, setI_1, setI_at, setI_R, upd2_at, I_add, I_addn, Int32.neg_neg, I_mul, I_ltI, I_leI, I_eqI, I_nat, if_true, if_false, reduceIte, reduceIteN, I_difn, bz_0, bz_1, nz_I, I_rem, I_div, I_sub, l4095, l32, l63, l0, l1, l2, l3, l4, l5, l6, l7, l8, l9, l10, l11, l12, l16, l24, l28, l31, l40, l48, l57, l64, l68, l78, l79, l99, l255, l2000, l2187, l1000000000, hs]
        rw [show isd t n i = true by unfold isd; simp [h1, h3, h4]]
        rfl
      · simp (disch := first | assumption | exact FX_setI ‹_› | exact FX_setI (FX_setI ‹_›) | exact FX_setI (FX_setI (FX_setI ‹_›)) | exact FX_setI (FX_setI (FX_setI (FX_setI ‹_›))) | omega) only [gr_0_0, gr_0_1, gr_0_2, gr_0_3, gr_0_4, gr_0_5, gr_0_6, gr_0_7, gr_1_0, gr_1_5, gr_1_7, gr_5_3, gr_5_9, gr_8_3, gr_8_9, gr_11_3, gr_11_9, gr_14_0, gr_14_1, gr_14_2, gr_18_0, gr_18_1, gr_18_2, gr_24_0, gr_24_1, gr_24_2, gr_24_3, gr_24_5, gr_24_6, gr_24_10, gr_24_11, gr_24_12, gr_24_15, al_2, al_3, al_4, al_7, al_10, al_13, al_15, al_16, al_17, al_19, al_20, al_21, al_22, al_23, al_25, al_26, al_27, al_28, al_29, al_30, al_31, al_32, al_33, al_34, as_2, as_3, as_4, as_7, as_10, as_13, as_15, as_16, as_17, as_19, as_20, as_21, as_22, as_23, as_25, as_26, as_27, as_28, as_29, as_30, as_31, as_32, as_33, as_34, gi_0, gi_1, gi_5, gi_8, gi_11, gi_14, gi_18, gi_24, pi_0, pi_1, pi_5, pi_8, pi_11, pi_14, pi_18, pi_24, rc_0, rc_1, rc_5, rc_8, rc_11, rc_14, rc_18, rc_24, ln_2, ln_3, ln_4, ln_7, ln_10, ln_13, ln_15, ln_16, ln_17, ln_19, ln_20, ln_21, ln_22, ln_23, ln_25, ln_26, ln_27, ln_28, ln_29, ln_30, ln_31, ln_32, ln_33, ln_34, ln_6, ln_9, ln_12, ciN, cvN, lt_eq, nn_none, nn_some, setI_1, setI_at, setI_R, upd2_at, I_add, I_addn, Int32.neg_neg, I_mul, I_ltI, I_leI, I_eqI, I_nat, if_true, if_false, reduceIte, reduceIteN, I_difn, bz_0, bz_1, nz_I, I_rem, I_div, I_sub, l4095, l32, l63, l0, l1, l2, l3, l4, l5, l6, l7, l8, l9, l10, l11, l12, l16, l24, l28, l31, l40, l48, l57, l64, l68, l78, l79, l99, l255, l2000, l2187, l1000000000, hs]
        rw [show isd t n i = false by unfold isd; simp [h1, h4]]
        rfl
    · simp (disch := first | assumption | exact FX_setI ‹_› | exact FX_setI (FX_setI ‹_›) | exact FX_setI (FX_setI (FX_setI ‹_›)) | exact FX_setI (FX_setI (FX_setI (FX_setI ‹_›))) | omega) only [gr_0_0, gr_0_1, gr_0_2, gr_0_3, gr_0_4, gr_0_5, gr_0_6, gr_0_7, gr_1_0, gr_1_5, gr_1_7, gr_5_3, gr_5_9, gr_8_3, gr_8_9, gr_11_3, gr_11_9, gr_14_0, gr_14_1, gr_14_2, gr_18_0, gr_18_1, gr_18_2, gr_24_0, gr_24_1, gr_24_2, gr_24_3, gr_24_5, gr_24_6, gr_24_10, gr_24_11, gr_24_12, gr_24_15, al_2, al_3, al_4, al_7, al_10, al_13, al_15, al_16, al_17, al_19, al_20, al_21, al_22, al_23, al_25, al_26, al_27, al_28, al_29, al_30, al_31, al_32, al_33, al_34, as_2, as_3, as_4, as_7, as_10, as_13, as_15, as_16, as_17, as_19, as_20, as_21, as_22, as_23, as_25, as_26, as_27, as_28, as_29, as_30, as_31, as_32, as_33, as_34, gi_0, gi_1, gi_5, gi_8, gi_11, gi_14, gi_18, gi_24, pi_0, pi_1, pi_5, pi_8, pi_11, pi_14, pi_18, pi_24, rc_0, rc_1, rc_5, rc_8, rc_11, rc_14, rc_18, rc_24, ln_2, ln_3, ln_4, ln_7, ln_10, ln_13, ln_15, ln_16, ln_17, ln_19, ln_20, ln_21, ln_22, ln_23, ln_25, ln_26, ln_27, ln_28, ln_29, ln_30, ln_31, ln_32, ln_33, ln_34, ln_6, ln_9, ln_12, ciN, cvN, lt_eq, nn_none, nn_some, setI_1, setI_at, setI_R, upd2_at, I_add, I_addn, Int32.neg_neg, I_mul, I_ltI, I_leI, I_eqI, I_nat, if_true, if_false, reduceIte, reduceIteN, I_difn, bz_0, bz_1, nz_I, I_rem, I_div, I_sub, l4095, l32, l63, l0, l1, l2, l3, l4, l5, l6, l7, l8, l9, l10, l11, l12, l16, l24, l28, l31, l40, l48, l57, l64, l68, l78, l79, l99, l255, l2000, l2187, l1000000000, hs]
      rw [show isd t n i = false by unfold isd; simp [h1, h3]]
      rfl
  · rw [if_neg h1] at hs
    have hlt : -I 1 < I 48 := neg1_lt (by decide)
    simp (disch := first | assumption | exact FX_setI ‹_› | exact FX_setI (FX_setI ‹_›) | exact FX_setI (FX_setI (FX_setI ‹_›)) | exact FX_setI (FX_setI (FX_setI (FX_setI ‹_›))) | omega) only [gr_0_0, gr_0_1, gr_0_2, gr_0_3, gr_0_4, gr_0_5, gr_0_6, gr_0_7, gr_1_0, gr_1_5, gr_1_7, gr_5_3, gr_5_9, gr_8_3, gr_8_9, gr_11_3, gr_11_9, gr_14_0, gr_14_1, gr_14_2, gr_18_0, gr_18_1, gr_18_2, gr_24_0, gr_24_1, gr_24_2, gr_24_3, gr_24_5, gr_24_6, gr_24_10, gr_24_11, gr_24_12, gr_24_15, al_2, al_3, al_4, al_7, al_10, al_13, al_15, al_16, al_17, al_19, al_20, al_21, al_22, al_23, al_25, al_26, al_27, al_28, al_29, al_30, al_31, al_32, al_33, al_34, as_2, as_3, as_4, as_7, as_10, as_13, as_15, as_16, as_17, as_19, as_20, as_21, as_22, as_23, as_25, as_26, as_27, as_28, as_29, as_30, as_31, as_32, as_33, as_34, gi_0, gi_1, gi_5, gi_8, gi_11, gi_14, gi_18, gi_24, pi_0, pi_1, pi_5, pi_8, pi_11, pi_14, pi_18, pi_24, rc_0, rc_1, rc_5, rc_8, rc_11, rc_14, rc_18, rc_24, ln_2, ln_3, ln_4, ln_7, ln_10, ln_13, ln_15, ln_16, ln_17, ln_19, ln_20, ln_21, ln_22, ln_23, ln_25, ln_26, ln_27, ln_28, ln_29, ln_30, ln_31, ln_32, ln_33, ln_34, ln_6, ln_9, ln_12, ciN, cvN, lt_eq, nn_none, nn_some, setI_1, setI_at, setI_R, upd2_at, I_add, I_addn, Int32.neg_neg, I_mul, I_ltI, I_leI, I_eqI, I_nat, if_true, if_false, reduceIte, reduceIteN, I_difn, bz_0, bz_1, nz_I, I_rem, I_div, I_sub, l4095, l32, l63, l0, l1, l2, l3, l4, l5, l6, l7, l8, l9, l10, l11, l12, l16, l24, l28, l31, l40, l48, l57, l64, l68, l78, l79, l99, l255, l2000, l2187, l1000000000, hs]
    rw [show isd t n i = false by unfold isd; simp [h1]]
    rfl
theorem isd_in {t : Nat → Nat} {n i : Nat} (hb : isd t n i = true) : i < n ∧ 48 ≤ t i ∧ t i ≤ 57 := by
  unfold isd at hb
  simpa using hb
theorem dval {a b : Nat} (hb : 48 ≤ b) : I 10 * I a + I b + -I 48 = I (a * 10 + (b - 48)) := by
  rw [I_mul, I_add, I_addn (by omega)]
  congr 1
  omega
theorem m_number_L {t : Nat → Nat} {n : Nat} {x4 : Int32} (hn : n ≤ 64) (ht : ∀ i, i < n → t i ≤ 255) {c mm : Nat} (hc : c < 12) (hmm : mm ≤ 12) : ∀ (k j m i v : Nat) (h : Hp), j + k = mm → k < m → i + k < 1000 → TM t n x4 h → h.2.1 24 8 = I i → h.2.1 30 c = I v →
    ∃ h', P_X6_readsNumber_L9 m 24 (I c) (I mm) (I j) h = some (bi (decide (0 < j + dcn t n i k)), h') ∧ FxA A2 h h' ∧ TM t n x4 h' ∧ h'.2.1 24 8 = I (i + dcn t n i k) ∧ h'.2.1 30 c = I (dva t i (dcn t n i k) v) ∧ (∀ x, x ≠ c → h'.2.1 30 x = h.2.1 30 x) := by
  intro k
  induction k with
  | zero =>
    intro j m i v h hj hm hi T ha hv
    cases m with
    | zero => omega
    | succ m =>
      have F := T.1
      refine ⟨h, ?_, FxA.rf, T, ha, hv, fun x _ => rfl⟩
      have e : j = mm := by omega
      subst e
      unfold P_X6_readsNumber_L9
      by_cases hz : j ≤ 0
      · simp (disch := first | assumption | exact FX_setI ‹_› | exact FX_setI (FX_setI ‹_›) | exact FX_setI (FX_setI (FX_setI ‹_›)) | exact FX_setI (FX_setI (FX_setI (FX_setI ‹_›))) | omega) only [gr_0_0, gr_0_1, gr_0_2, gr_0_3, gr_0_4, gr_0_5, gr_0_6, gr_0_7, gr_1_0, gr_1_5, gr_1_7, gr_5_3, gr_5_9, gr_8_3, gr_8_9, gr_11_3, gr_11_9, gr_14_0, gr_14_1, gr_14_2, gr_18_0, gr_18_1, gr_18_2, gr_24_0, gr_24_1, gr_24_2, gr_24_3, gr_24_5, gr_24_6, gr_24_10, gr_24_11, gr_24_12, gr_24_15, al_2, al_3, al_4, al_7, al_10, al_13, al_15, al_16, al_17, al_19, al_20, al_21, al_22, al_23, al_25, al_26, al_27, al_28, al_29, al_30, al_31, al_32, al_33, al_34, as_2, as_3, as_4, as_7, as_10, as_13, as_15, as_16, as_17, as_19, as_20, as_21, as_22, as_23, as_25, as_26, as_27, as_28, as_29, as_30, as_31, as_32, as_33, as_34, gi_0, gi_1, gi_5, gi_8, gi_11, gi_14, gi_18, gi_24, pi_0, pi_1, pi_5, pi_8, pi_11, pi_14, pi_18, pi_24, rc_0, rc_1, rc_5, rc_8, rc_11, rc_14, rc_18, rc_24, ln_2, ln_3, ln_4, ln_7, ln_10, ln_13, ln_15, ln_16, ln_17, ln_19, ln_20, ln_21, ln_22, ln_23, ln_25, ln_26, ln_27, ln_28, ln_29, ln_30, ln_31, ln_32, ln_33, ln_34, ln_6, ln_9, ln_12, ciN, cvN, lt_eq, nn_none, nn_some, setI_1, setI_at, setI_R, upd2_at, I_add, I_addn, Int32.neg_neg, I_mul, I_ltI, I_leI, I_eqI, I_nat, if_true, if_false, reduceIte, reduceIteN, I_difn, bz_0, bz_1, nz_I, I_rem, I_div, I_sub, l4095, l32, l63, l0, l1, l2, l3, l4, l5, l6, l7, l8, l9, l10, l11, l12, l16, l24, l28, l31, l40, l48, l57, l64, l68, l78, l79, l99, l255, l2000, l2187, l1000000000]
        rw [show decide (0 < j + dcn t n i 0) = false from decide_eq_false (by have : dcn t n i 0 = 0 := rfl; omega)]
        rfl
      · simp (disch := first | assumption | exact FX_setI ‹_› | exact FX_setI (FX_setI ‹_›) | exact FX_setI (FX_setI (FX_setI ‹_›)) | exact FX_setI (FX_setI (FX_setI (FX_setI ‹_›))) | omega) only [gr_0_0, gr_0_1, gr_0_2, gr_0_3, gr_0_4, gr_0_5, gr_0_6, gr_0_7, gr_1_0, gr_1_5, gr_1_7, gr_5_3, gr_5_9, gr_8_3, gr_8_9, gr_11_3, gr_11_9, gr_14_0, gr_14_1, gr_14_2, gr_18_0, gr_18_1, gr_18_2, gr_24_0, gr_24_1, gr_24_2, gr_24_3, gr_24_5, gr_24_6, gr_24_10, gr_24_11, gr_24_12, gr_24_15, al_2, al_3, al_4, al_7, al_10, al_13, al_15, al_16, al_17, al_19, al_20, al_21, al_22, al_23, al_25, al_26, al_27, al_28, al_29, al_30, al_31, al_32, al_33, al_34, as_2, as_3, as_4, as_7, as_10, as_13, as_15, as_16, as_17, as_19, as_20, as_21, as_22, as_23, as_25, as_26, as_27, as_28, as_29, as_30, as_31, as_32, as_33, as_34, gi_0, gi_1, gi_5, gi_8, gi_11, gi_14, gi_18, gi_24, pi_0, pi_1, pi_5, pi_8, pi_11, pi_14, pi_18, pi_24, rc_0, rc_1, rc_5, rc_8, rc_11, rc_14, rc_18, rc_24, ln_2, ln_3, ln_4, ln_7, ln_10, ln_13, ln_15, ln_16, ln_17, ln_19, ln_20, ln_21, ln_22, ln_23, ln_25, ln_26, ln_27, ln_28, ln_29, ln_30, ln_31, ln_32, ln_33, ln_34, ln_6, ln_9, ln_12, ciN, cvN, lt_eq, nn_none, nn_some, setI_1, setI_at, setI_R, upd2_at, I_add, I_addn, Int32.neg_neg, I_mul, I_ltI, I_leI, I_eqI, I_nat, if_true, if_false, reduceIte, reduceIteN, I_difn, bz_0, bz_1, nz_I, I_rem, I_div, I_sub, l4095, l32, l63, l0, l1, l2, l3, l4, l5, l6, l7, l8, l9, l10, l11, l12, l16, l24, l28, l31, l40, l48, l57, l64, l68, l78, l79, l99, l255, l2000, l2187, l1000000000]
        rw [show decide (0 < j + dcn t n i 0) = true from decide_eq_true (by have : dcn t n i 0 = 0 := rfl; omega)]
        rfl
  | succ k ih =>
    intro j m i v h hj hm hi T ha hv
    cases m with
    | zero => omega
    | succ m =>
      have F := T.1
      have hdg := m_isDigit hn ht T ha (by omega)
      rw [dcn_succ]
      cases hb : isd t n i
      · rw [if_neg Bool.false_ne_true]
        rw [hb, bi_f] at hdg
        refine ⟨h, ?_, FxA.rf, T, ha, hv, fun x _ => rfl⟩
        unfold P_X6_readsNumber_L9
        by_cases hz : j ≤ 0
        · simp (disch := first | assumption | exact FX_setI ‹_› | exact FX_setI (FX_setI ‹_›) | exact FX_setI (FX_setI (FX_setI ‹_›)) | exact FX_setI (FX_setI (FX_setI (FX_setI ‹_›))) | omega) only [gr_0_0, gr_0_1, gr_0_2, gr_0_3, gr_0_4, gr_0_5, gr_0_6, gr_0_7, gr_1_0, gr_1_5, gr_1_7, gr_5_3, gr_5_9, gr_8_3, gr_8_9, gr_11_3, gr_11_9, gr_14_0, gr_14_1, gr_14_2, gr_18_0, gr_18_1, gr_18_2, gr_24_0, gr_24_1, gr_24_2, gr_24_3, gr_24_5, gr_24_6, gr_24_10, gr_24_11, gr_24_12, gr_24_15, al_2, al_3, al_4, al_7, al_10, al_13, al_15, al_16, al_17, al_19, al_20, al_21, al_22, al_23, al_25, al_26, al_27, al_28, al_29, al_30, al_31, al_32, al_33, al_34, as_2, as_3, as_4, as_7, as_10, as_13, as_15, as_16, as_17, as_19, as_20, as_21, as_22, as_23, as_25, as_26, as_27, as_28, as_29, as_30, as_31, as_32, as_33, as_34, gi_0, gi_1, gi_5, gi_8, gi_11, gi_14, gi_18, gi_24, pi_0, pi_1, pi_5, pi_8, pi_11, pi_14, pi_18, pi_24, rc_0, rc_1, rc_5, rc_8, rc_11, rc_14, rc_18, rc_24, ln_2, ln_3, ln_4, ln_7, ln_10, ln_13, ln_15, ln_16, ln_17, ln_19, ln_20, ln_21, ln_22, ln_23, ln_25, ln_26, ln_27, ln_28, ln_29, ln_30, ln_31, ln_32, ln_33, ln_34, ln_6, ln_9, ln_12, ciN, cvN, lt_eq, nn_none, nn_some, setI_1, setI_at, setI_R, upd2_at, I_add, I_addn, Int32.neg_neg, I_mul, I_ltI, I_leI, I_eqI, I_nat, if_true, if_false, reduceIte, reduceIteN, I_difn, bz_0, bz_1, nz_I, I_rem, I_div, I_sub, l4095, l32, l63, l0, l1, l2, l3, l4, l5, l6, l7, l8, l9, l10, l11, l12, l16, l24, l28, l31, l40, l48, l57, l64, l68, l78, l79, l99, l255, l2000, l2187, l1000000000, hdg]
          rw [show decide (0 < j + 0) = false by simp; omega]
          rfl
        · simp (disch := first | assumption | exact FX_setI ‹_› | exact FX_setI (FX_setI ‹_›) | exact FX_setI (FX_setI (FX_setI ‹_›)) | exact FX_setI (FX_setI (FX_setI (FX_setI ‹_›))) | omega) only [gr_0_0, gr_0_1, gr_0_2, gr_0_3, gr_0_4, gr_0_5, gr_0_6, gr_0_7, gr_1_0, gr_1_5, gr_1_7, gr_5_3, gr_5_9, gr_8_3, gr_8_9, gr_11_3, gr_11_9, gr_14_0, gr_14_1, gr_14_2, gr_18_0, gr_18_1, gr_18_2, gr_24_0, gr_24_1, gr_24_2, gr_24_3, gr_24_5, gr_24_6, gr_24_10, gr_24_11, gr_24_12, gr_24_15, al_2, al_3, al_4, al_7, al_10, al_13, al_15, al_16, al_17, al_19, al_20, al_21, al_22, al_23, al_25, al_26, al_27, al_28, al_29, al_30, al_31, al_32, al_33, al_34, as_2, as_3, as_4, as_7, as_10, as_13, as_15, as_16, as_17, as_19, as_20, as_21, as_22, as_23, as_25, as_26, as_27, as_28, as_29, as_30, as_31, as_32, as_33, as_34, gi_0, gi_1, gi_5, gi_8, gi_11, gi_14, gi_18, gi_24, pi_0, pi_1, pi_5, pi_8, pi_11, pi_14, pi_18, pi_24, rc_0, rc_1, rc_5, rc_8, rc_11, rc_14, rc_18, rc_24, ln_2, ln_3, ln_4, ln_7, ln_10, ln_13, ln_15, ln_16, ln_17, ln_19, ln_20, ln_21, ln_22, ln_23, ln_25, ln_26, ln_27, ln_28, ln_29, ln_30, ln_31, ln_32, ln_33, ln_34, ln_6, ln_9, ln_12, ciN, cvN, lt_eq, nn_none, nn_some, setI_1, setI_at, setI_R, upd2_at, I_add, I_addn, Int32.neg_neg, I_mul, I_ltI, I_leI, I_eqI, I_nat, if_true, if_false, reduceIte, reduceIteN, I_difn, bz_0, bz_1, nz_I, I_rem, I_div, I_sub, l4095, l32, l63, l0, l1, l2, l3, l4, l5, l6, l7, l8, l9, l10, l11, l12, l16, l24, l28, l31, l40, l48, l57, l64, l68, l78, l79, l99, l255, l2000, l2187, l1000000000, hdg]
          rw [show decide (0 < j + 0) = true by simp; omega]
          rfl
      · rw [if_pos rfl]
        rw [hb, bi_t] at hdg
        have hin := isd_in hb
        have hs := m_sign hn T ha (by omega)
        unfold sg at hs
        rw [if_pos hin.1] at hs
        let h1 : Hp := setI (setI h 30 c (I (v * 10 + (t i - 48)))) 24 8 (I (i + 1))
        have z1 : setI (setI h 30 c (I (v * 10 + (t i - 48)))) 24 8 (I (i + 1)) = h1 := rfl
        have A1 : FxA A2 h h1 := (FxA.set (by decide)).tr (FxA.set (by decide))
        have T1 : TM t n x4 h1 := TM_at (TM_ne T (by decide)) (by decide)
        have a1 : h1.2.1 24 8 = I (i + 1) := by rw [← z1, setI_at, if_pos ⟨rfl, rfl⟩]
        have v1 : h1.2.1 30 c = I (v * 10 + (t i - 48)) := by rw [← z1, setI_ne (by decide), setI_at, if_pos ⟨rfl, rfl⟩]
        obtain ⟨h2, r1, r2, r3, r4, r5, r6⟩ := ih (j + 1) m (i + 1) (v * 10 + (t i - 48)) h1 (by omega) (by omega) (by omega) T1 a1 v1
        have dv : I 10 * I v + I (t i) - I 48 = I (v * 10 + (t i - 48)) := by rw [Int32.sub_eq_add_neg]; exact dval hin.2.1
        have dv2 : (10 : Int32) * I v + I (t i) - 48 = I (v * 10 + (t i - 48)) := dv
        refine ⟨h2, ?_, A1.tr r2, r3, by rw [r4]; congr 1; omega, r5, fun x hx => ?_⟩
        · rw [show decide (0 < j + (dcn t n (i + 1) k + 1)) = decide (0 < j + 1 + dcn t n (i + 1) k) by congr 1; exact propext ⟨fun _ => by omega, fun _ => by omega⟩]
          unfold P_X6_readsNumber_L9
          rw [if_neg (show ¬ I mm ≤ I j by rw [I_leI (by omega) (by omega)]; omega), rc_24 F, hdg, ci_some, if_neg (show ¬ I 1 = 0 by decide), gr_24_6 F, gr_24_6 F, al_30 F hc, hv, rc_24 F, hs, ci_some, as_30 F hc, dv2, gi_24 (FX_setI F), setI_ne (show 24 ≠ 30 by decide), ha, pi_24 (FX_setI F), show I i + 1 = I (i + 1) from I_add i 1, lt_eq, show I j + 1 = I (j + 1) from I_add j 1, z1]
          exact r1
        · rw [r6 x hx, ← z1, setI_ne (by decide), setI_at, if_neg (fun z => hx z.2)]
theorem m_number {t : Nat → Nat} {n i c mm : Nat} {x4 x y : Int32} {h : Hp} (hn : n ≤ 64) (ht : ∀ i, i < n → t i ≤ 255) (T : TM t n x4 h) (ha : h.2.1 24 8 = I i) (hi : i < 900) (hc : c < 12) (hmm : mm ≤ 12) (hx : x = I c) (hy : y = I mm) : OUT A2 (TM t n x4) 24 8 (P_X6_readsNumber 24 x y h) h (rdS t n mm i) (fun h' => h'.2.1 30 c = I (dva t i (dcn t n i mm) 0) ∧ ∀ x, x ≠ c → h'.2.1 30 x = h.2.1 30 x) := by
  have F := T.1
  obtain ⟨h', r1, r2, r3, r4, r5, r6⟩ := m_number_L (c := c) hn ht hc hmm mm 0 FU i 0 (setI h 30 c (I 0)) (by omega) (by have := FU_eq; omega) (by omega) (TM_ne T (by decide)) (by rw [setI_ne (by decide)]; exact ha) (by rw [setI_at, if_pos ⟨rfl, rfl⟩])
  rw [Nat.zero_add] at r1
  refine ⟨h', ?_, (FxA.set (by decide)).tr r2, r3, r4, fun _ => ⟨r5, fun x hx => by rw [r6 x hx, setI_at, if_neg (fun z => hx z.2)]⟩⟩
  rw [hx, hy]
  unfold P_X6_readsNumber rdS
  rw [show (0 : Int32) = I 0 from rfl, gr_24_6 F, as_30 F hc, lt_eq]
  exact r1
theorem m_row_L {t : Nat → Nat} {n : Nat} {x4 : Int32} (hn : n ≤ 64) (ht : ∀ i, i < n → t i ≤ 255) : ∀ (k j m i : Nat) (h : Hp), j + k = 12 → k < m → i + k < 1000 → TM t n x4 h → h.2.1 24 8 = I i → h.2.1 24 9 = I j →
    ∃ h', P_X6_readsRow_L5 m 24 h = some (bi (decide (0 < j + dcn t n i k)), h') ∧ FxA A2 h h' ∧ TM t n x4 h' ∧ h'.2.1 24 8 = I (i + dcn t n i k) ∧ h'.2.1 24 9 = I (j + dcn t n i k) ∧ (∀ x, x < j → h'.2.1 30 x = h.2.1 30 x) ∧ ∀ x, x < dcn t n i k → h'.2.1 30 (j + x) = I (t (i + x) - 48) := by
  intro k
  induction k with
  | zero =>
    intro j m i h hj hm hi T ha hv
    cases m with
    | zero => omega
    | succ m =>
      have F := T.1
      refine ⟨h, ?_, FxA.rf, T, ha, hv, fun x _ => rfl, fun x hx => absurd hx (Nat.not_lt_zero x)⟩
      have e : j = 12 := by omega
      subst e
      rw [show decide (0 < 12 + dcn t n i 0) = true from decide_eq_true (by omega)]
      unfold P_X6_readsRow_L5
      simp (disch := first | assumption | exact FX_setI ‹_› | exact FX_setI (FX_setI ‹_›) | exact FX_setI (FX_setI (FX_setI ‹_›)) | exact FX_setI (FX_setI (FX_setI (FX_setI ‹_›))) | omega) only [gr_0_0, gr_0_1, gr_0_2, gr_0_3, gr_0_4, gr_0_5, gr_0_6, gr_0_7, gr_1_0, gr_1_5, gr_1_7, gr_5_3, gr_5_9, gr_8_3, gr_8_9, gr_11_3, gr_11_9, gr_14_0, gr_14_1, gr_14_2, gr_18_0, gr_18_1, gr_18_2, gr_24_0, gr_24_1, gr_24_2, gr_24_3, gr_24_5, gr_24_6, gr_24_10, gr_24_11, gr_24_12, gr_24_15, al_2, al_3, al_4, al_7, al_10, al_13, al_15, al_16, al_17, al_19, al_20, al_21, al_22, al_23, al_25, al_26, al_27, al_28, al_29, al_30, al_31, al_32, al_33, al_34, as_2, as_3, as_4, as_7, as_10, as_13, as_15, as_16, as_17, as_19, as_20, as_21, as_22, as_23, as_25, as_26, as_27, as_28, as_29, as_30, as_31, as_32, as_33, as_34, gi_0, gi_1, gi_5, gi_8, gi_11, gi_14, gi_18, gi_24, pi_0, pi_1, pi_5, pi_8, pi_11, pi_14, pi_18, pi_24, rc_0, rc_1, rc_5, rc_8, rc_11, rc_14, rc_18, rc_24, ln_2, ln_3, ln_4, ln_7, ln_10, ln_13, ln_15, ln_16, ln_17, ln_19, ln_20, ln_21, ln_22, ln_23, ln_25, ln_26, ln_27, ln_28, ln_29, ln_30, ln_31, ln_32, ln_33, ln_34, ln_6, ln_9, ln_12, ciN, cvN, lt_eq, nn_none, nn_some, setI_1, setI_at, setI_R, upd2_at, I_add, I_addn, Int32.neg_neg, I_mul, I_ltI, I_leI, I_eqI, I_nat, if_true, if_false, reduceIte, reduceIteN, I_difn, bz_0, bz_1, nz_I, I_rem, I_div, I_sub, l4095, l32, l63, l0, l1, l2, l3, l4, l5, l6, l7, l8, l9, l10, l11, l12, l16, l24, l28, l31, l40, l48, l57, l64, l68, l78, l79, l99, l255, l2000, l2187, l1000000000, hv]
      rfl
  | succ k ih =>
    intro j m i h hj hm hi T ha hv
    cases m with
    | zero => omega
    | succ m =>
      have F := T.1
      have hdg := m_isDigit hn ht T ha (by omega)
      rw [dcn_succ]
      cases hb : isd t n i
      · rw [if_neg Bool.false_ne_true]
        rw [hb, bi_f] at hdg
        refine ⟨h, ?_, FxA.rf, T, ha, hv, fun x _ => rfl, fun x hx => absurd hx (Nat.not_lt_zero x)⟩
        unfold P_X6_readsRow_L5
        by_cases hz : j ≤ 0
        · simp (disch := first | assumption | exact FX_setI ‹_› | exact FX_setI (FX_setI ‹_›) | exact FX_setI (FX_setI (FX_setI ‹_›)) | exact FX_setI (FX_setI (FX_setI (FX_setI ‹_›))) | omega) only [gr_0_0, gr_0_1, gr_0_2, gr_0_3, gr_0_4, gr_0_5, gr_0_6, gr_0_7, gr_1_0, gr_1_5, gr_1_7, gr_5_3, gr_5_9, gr_8_3, gr_8_9, gr_11_3, gr_11_9, gr_14_0, gr_14_1, gr_14_2, gr_18_0, gr_18_1, gr_18_2, gr_24_0, gr_24_1, gr_24_2, gr_24_3, gr_24_5, gr_24_6, gr_24_10, gr_24_11, gr_24_12, gr_24_15, al_2, al_3, al_4, al_7, al_10, al_13, al_15, al_16, al_17, al_19, al_20, al_21, al_22, al_23, al_25, al_26, al_27, al_28, al_29, al_30, al_31, al_32, al_33, al_34, as_2, as_3, as_4, as_7, as_10, as_13, as_15, as_16, as_17, as_19, as_20, as_21, as_22, as_23, as_25, as_26, as_27, as_28, as_29, as_30, as_31, as_32, as_33, as_34, gi_0, gi_1, gi_5, gi_8, gi_11, gi_14, gi_18, gi_24, pi_0, pi_1, pi_5, pi_8, pi_11, pi_14, pi_18, pi_24, rc_0, rc_1, rc_5, rc_8, rc_11, rc_14, rc_18, rc_24, ln_2, ln_3, ln_4, ln_7, ln_10, ln_13, ln_15, ln_16, ln_17, ln_19, ln_20, ln_21, ln_22, ln_23, ln_25, ln_26, ln_27, ln_28, ln_29, ln_30, ln_31, ln_32, ln_33, ln_34, ln_6, ln_9, ln_12, ciN, cvN, lt_eq, nn_none, nn_some, setI_1, setI_at, setI_R, upd2_at, I_add, I_addn, Int32.neg_neg, I_mul, I_ltI, I_leI, I_eqI, I_nat, if_true, if_false, reduceIte, reduceIteN, I_difn, bz_0, bz_1, nz_I, I_rem, I_div, I_sub, l4095, l32, l63, l0, l1, l2, l3, l4, l5, l6, l7, l8, l9, l10, l11, l12, l16, l24, l28, l31, l40, l48, l57, l64, l68, l78, l79, l99, l255, l2000, l2187, l1000000000, hdg, hv]
          rw [show decide (0 < j + 0) = false by simp; omega]
          rfl
        · simp (disch := first | assumption | exact FX_setI ‹_› | exact FX_setI (FX_setI ‹_›) | exact FX_setI (FX_setI (FX_setI ‹_›)) | exact FX_setI (FX_setI (FX_setI (FX_setI ‹_›))) | omega) only [gr_0_0, gr_0_1, gr_0_2, gr_0_3, gr_0_4, gr_0_5, gr_0_6, gr_0_7, gr_1_0, gr_1_5, gr_1_7, gr_5_3, gr_5_9, gr_8_3, gr_8_9, gr_11_3, gr_11_9, gr_14_0, gr_14_1, gr_14_2, gr_18_0, gr_18_1, gr_18_2, gr_24_0, gr_24_1, gr_24_2, gr_24_3, gr_24_5, gr_24_6, gr_24_10, gr_24_11, gr_24_12, gr_24_15, al_2, al_3, al_4, al_7, al_10, al_13, al_15, al_16, al_17, al_19, al_20, al_21, al_22, al_23, al_25, al_26, al_27, al_28, al_29, al_30, al_31, al_32, al_33, al_34, as_2, as_3, as_4, as_7, as_10, as_13, as_15, as_16, as_17, as_19, as_20, as_21, as_22, as_23, as_25, as_26, as_27, as_28, as_29, as_30, as_31, as_32, as_33, as_34, gi_0, gi_1, gi_5, gi_8, gi_11, gi_14, gi_18, gi_24, pi_0, pi_1, pi_5, pi_8, pi_11, pi_14, pi_18, pi_24, rc_0, rc_1, rc_5, rc_8, rc_11, rc_14, rc_18, rc_24, ln_2, ln_3, ln_4, ln_7, ln_10, ln_13, ln_15, ln_16, ln_17, ln_19, ln_20, ln_21, ln_22, ln_23, ln_25, ln_26, ln_27, ln_28, ln_29, ln_30, ln_31, ln_32, ln_33, ln_34, ln_6, ln_9, ln_12, ciN, cvN, lt_eq, nn_none, nn_some, setI_1, setI_at, setI_R, upd2_at, I_add, I_addn, Int32.neg_neg, I_mul, I_ltI, I_leI, I_eqI, I_nat, if_true, if_false, reduceIte, reduceIteN, I_difn, bz_0, bz_1, nz_I, I_rem, I_div, I_sub, l4095, l32, l63, l0, l1, l2, l3, l4, l5, l6, l7, l8, l9, l10, l11, l12, l16, l24, l28, l31, l40, l48, l57, l64, l68, l78, l79, l99, l255, l2000, l2187, l1000000000, hdg, hv]
          rw [show decide (0 < j + 0) = true by simp; omega]
          rfl
      · rw [if_pos rfl]
        rw [hb, bi_t] at hdg
        have hin := isd_in hb
        have hs := m_sign hn T ha (by omega)
        unfold sg at hs
        rw [if_pos hin.1] at hs
        let h1 : Hp := setI (setI (setI h 30 j (I (t i - 48))) 24 9 (I (j + 1))) 24 8 (I (i + 1))
        have z1 : setI (setI (setI h 30 j (I (t i - 48))) 24 9 (I (j + 1))) 24 8 (I (i + 1)) = h1 := rfl
        have A1 : FxA A2 h h1 := ((FxA.set (by decide)).tr (FxA.set (by decide))).tr (FxA.set (by decide))
        have T1 : TM t n x4 h1 := TM_at (TM_at (TM_ne T (by decide)) (by decide)) (by decide)
        have a1 : h1.2.1 24 8 = I (i + 1) := by rw [← z1, setI_at, if_pos ⟨rfl, rfl⟩]
        have v1 : h1.2.1 24 9 = I (j + 1) := by rw [← z1, setI_at, if_neg (by decide), setI_at, if_pos ⟨rfl, rfl⟩]
        obtain ⟨h2, r1, r2, r3, r4, r5, r6, r7⟩ := ih (j + 1) m (i + 1) h1 (by omega) (by omega) (by omega) T1 a1 v1
        refine ⟨h2, ?_, A1.tr r2, r3, by rw [r4]; congr 1; omega, by rw [r5]; congr 1; omega, fun x hx => ?_, fun x hx => ?_⟩
        · rw [show decide (0 < j + (dcn t n (i + 1) k + 1)) = decide (0 < j + 1 + dcn t n (i + 1) k) by congr 1; exact propext ⟨fun _ => by omega, fun _ => by omega⟩]
          unfold P_X6_readsRow_L5
          simp (disch := first | assumption | exact FX_setI ‹_› | exact FX_setI (FX_setI ‹_›) | exact FX_setI (FX_setI (FX_setI ‹_›)) | exact FX_setI (FX_setI (FX_setI (FX_setI ‹_›))) | omega) only [gr_0_0, gr_0_1, gr_0_2, gr_0_3, gr_0_4, gr_0_5, gr_0_6, gr_0_7, gr_1_0, gr_1_5, gr_1_7, gr_5_3, gr_5_9, gr_8_3, gr_8_9, gr_11_3, gr_11_9, gr_14_0, gr_14_1, gr_14_2, gr_18_0, gr_18_1, gr_18_2, gr_24_0, gr_24_1, gr_24_2, gr_24_3, gr_24_5, gr_24_6, gr_24_10, gr_24_11, gr_24_12, gr_24_15, al_2, al_3, al_4, al_7, al_10, al_13, al_15, al_16, al_17, al_19, al_20, al_21, al_22, al_23, al_25, al_26, al_27, al_28, al_29, al_30, al_31, al_32, al_33, al_34, as_2, as_3, as_4, as_7, as_10, as_13, as_15, as_16, as_17, as_19, as_20, as_21, as_22, as_23, as_25, as_26, as_27, as_28, as_29, as_30, as_31, as_32, as_33, as_34, gi_0, gi_1, gi_5, gi_8, gi_11, gi_14, gi_18, gi_24, pi_0, pi_1, pi_5, pi_8, pi_11, pi_14, pi_18, pi_24, rc_0, rc_1, rc_5, rc_8, rc_11, rc_14, rc_18, rc_24, ln_2, ln_3, ln_4, ln_7, ln_10, ln_13, ln_15, ln_16, ln_17, ln_19, ln_20, ln_21, ln_22, ln_23, ln_25, ln_26, ln_27, ln_28, ln_29, ln_30, ln_31, ln_32, ln_33, ln_34, ln_6, ln_9, ln_12, ciN, cvN, lt_eq, nn_none, nn_some, setI_1, setI_at, setI_R, upd2_at, I_add, I_addn, Int32.neg_neg, I_mul, I_ltI, I_leI, I_eqI, I_nat, if_true, if_false, reduceIte, reduceIteN, I_difn, bz_0, bz_1, nz_I, I_rem, I_div, I_sub, l4095, l32, l63, l0, l1, l2, l3, l4, l5, l6, l7, l8, l9, l10, l11, l12, l16, l24, l28, l31, l40, l48, l57, l64, l68, l78, l79, l99, l255, l2000, l2187, l1000000000, hdg, hv, hs, ha, z1]
          exact r1
        · rw [r6 x (by omega), ← z1, setI_ne (by decide), setI_ne (by decide), setI_at, if_neg (by omega)]
        · by_cases h0 : x = 0
          · subst h0
            rw [Nat.add_zero, Nat.add_zero, r6 j (by omega), ← z1, setI_ne (by decide), setI_ne (by decide), setI_at, if_pos ⟨rfl, rfl⟩]
          · have := r7 (x - 1) (by omega)
            rw [show j + 1 + (x - 1) = j + x by omega, show i + 1 + (x - 1) = i + x by omega] at this
            exact this
theorem m_row {t : Nat → Nat} {n i : Nat} {x4 : Int32} {h : Hp} (hn : n ≤ 64) (ht : ∀ i, i < n → t i ≤ 255) (T : TM t n x4 h) (ha : h.2.1 24 8 = I i) (hi : i < 900) : OUT A2 (TM t n x4) 24 8 (P_X6_readsRow 24 h) h (rdS t n 12 i) (fun h' => h'.2.1 24 9 = I (dcn t n i 12) ∧ ∀ x, x < dcn t n i 12 → h'.2.1 30 x = I (t (i + x) - 48)) := by
  have F := T.1
  obtain ⟨h', r1, r2, r3, r4, r5, r6, r7⟩ := m_row_L hn ht 12 0 FU i (setI h 24 9 (I 0)) (by omega) (by have := FU_eq; omega) (by omega) (TM_at T (by decide)) (by rw [setI_at, if_neg (by decide)]; exact ha) (by rw [setI_at, if_pos ⟨rfl, rfl⟩])
  rw [Nat.zero_add] at r1
  refine ⟨h', ?_, (FxA.set (by decide)).tr r2, r3, r4, fun _ => ⟨by rw [r5, Nat.zero_add], fun x hx => by have := r7 x hx; rw [Nat.zero_add] at this; exact this⟩⟩
  unfold P_X6_readsRow rdS
  rw [show (0 : Int32) = I 0 from rfl, pi_24 F]
  exact r1
theorem m_kindOf {h : Hp} {c : Nat} (hc : c ≤ 255) : P_X6_kindOf (I c) h = some (if kdn c < 6 then I (kdn c) else -I 9, h) := by
  have q : ∀ (d : Nat), d < 256 → (I c = I d) = (c = d) := fun d hd => I_eqI (by omega) (by omega)
  unfold P_X6_kindOf kdn
  rw [show (98 : Int32) = I 98 from rfl, show (100 : Int32) = I 100 from rfl, show (101 : Int32) = I 101 from rfl, show (109 : Int32) = I 109 from rfl, show (117 : Int32) = I 117 from rfl, show (120 : Int32) = I 120 from rfl]
  by_cases h1 : c = 98
  · rw [if_pos (by rw [h1]), if_pos h1]; rfl
  rw [if_neg (by rw [q 98 (by decide)]; exact h1), if_neg h1]
  by_cases h2 : c = 100
  · rw [if_pos (by rw [h2]), if_pos h2]; rfl
  rw [if_neg (by rw [q 100 (by decide)]; exact h2), if_neg h2]
  by_cases h3 : c = 101
  · rw [if_pos (by rw [h3]), if_pos h3]; rfl
  rw [if_neg (by rw [q 101 (by decide)]; exact h3), if_neg h3]
  by_cases h4 : c = 109
  · rw [if_pos (by rw [h4]), if_pos h4]; rfl
  rw [if_neg (by rw [q 109 (by decide)]; exact h4), if_neg h4]
  by_cases h5 : c = 117
  · rw [if_pos (by rw [h5]), if_pos h5]; rfl
  rw [if_neg (by rw [q 117 (by decide)]; exact h5), if_neg h5]
  by_cases h6 : c = 120
  · rw [if_pos (by rw [h6]), if_pos h6]; rfl
  rw [if_neg (by rw [q 120 (by decide)]; exact h6), if_neg h6]
  rfl
theorem m_kindNo {h : Hp} : P_X6_kindOf (-I 1) h = some (-I 9, h) := by
  unfold P_X6_kindOf
  rw [if_neg (by decide), if_neg (by decide), if_neg (by decide), if_neg (by decide), if_neg (by decide), if_neg (by decide)]
  rfl
theorem m_kind {t : Nat → Nat} {n i : Nat} {x4 : Int32} {h : Hp} (hn : n ≤ 64) (ht : ∀ i, i < n → t i ≤ 255) (T : TM t n x4 h) (ha : h.2.1 24 8 = I i) (hi : i < 900) : OUT A2 (TM t n x4) 24 8 (P_X6_readsKind 24 h) h (kdS t n i) (fun h' => (kdS t n i).2 = i + 1 ∧ h'.2.1 30 0 = I (kdn (t i))) := by
  have F := T.1
  have hs := m_sign hn T ha (by omega)
  unfold sg at hs
  have no : ¬ (i < n ∧ kdn (t i) < 6) → P_X6_kindOf (sg t n i) h = some (-I 9, h) := fun hk => by
    unfold sg
    by_cases h1 : i < n
    · rw [if_pos h1, m_kindOf (ht i h1), if_neg (fun z => hk ⟨h1, z⟩)]
    · rw [if_neg h1]
      exact m_kindNo
  unfold sg at no
  unfold P_X6_readsKind
  by_cases hk : i < n ∧ kdn (t i) < 6
  · have he : kdS t n i = (true, i + 1) := by unfold kdS; rw [if_pos (by simpa using hk)]
    rw [if_pos hk.1] at hs
    have hko := m_kindOf (h := h) (ht i hk.1)
    rw [if_pos hk.2] at hko
    rw [he]
    refine ⟨setI (setI h 30 0 (I (kdn (t i)))) 24 8 (I (i + 1)), ?_, (FxA.set (by decide)).tr (FxA.set (by decide)), TM_at (TM_ne T (by decide)) (by decide), by rw [setI_at, if_pos ⟨rfl, rfl⟩], fun _ => ⟨rfl, by rw [setI_ne (by decide), setI_at, if_pos ⟨rfl, rfl⟩]⟩⟩
    have hkd := hk.2
    simp (disch := first | assumption | exact FX_setI ‹_› | exact FX_setI (FX_setI ‹_›) | exact FX_setI (FX_setI (FX_setI ‹_›)) | exact FX_setI (FX_setI (FX_setI (FX_setI ‹_›))) | omega) only [gr_0_0, gr_0_1, gr_0_2, gr_0_3, gr_0_4, gr_0_5, gr_0_6, gr_0_7, gr_1_0, gr_1_5, gr_1_7, gr_5_3, gr_5_9, gr_8_3, gr_8_9, gr_11_3, gr_11_9, gr_14_0, gr_14_1, gr_14_2, gr_18_0, gr_18_1, gr_18_2, gr_24_0, gr_24_1, gr_24_2, gr_24_3, gr_24_5, gr_24_6, gr_24_10, gr_24_11, gr_24_12, gr_24_15, al_2, al_3, al_4, al_7, al_10, al_13, al_15, al_16, al_17, al_19, al_20, al_21, al_22, al_23, al_25, al_26, al_27, al_28, al_29, al_30, al_31, al_32, al_33, al_34, as_2, as_3, as_4, as_7, as_10, as_13, as_15, as_16, as_17, as_19, as_20, as_21, as_22, as_23, as_25, as_26, as_27, as_28, as_29, as_30, as_31, as_32, as_33, as_34, gi_0, gi_1, gi_5, gi_8, gi_11, gi_14, gi_18, gi_24, pi_0, pi_1, pi_5, pi_8, pi_11, pi_14, pi_18, pi_24, rc_0, rc_1, rc_5, rc_8, rc_11, rc_14, rc_18, rc_24, ln_2, ln_3, ln_4, ln_7, ln_10, ln_13, ln_15, ln_16, ln_17, ln_19, ln_20, ln_21, ln_22, ln_23, ln_25, ln_26, ln_27, ln_28, ln_29, ln_30, ln_31, ln_32, ln_33, ln_34, ln_6, ln_9, ln_12, ciN, cvN, lt_eq, nn_none, nn_some, setI_1, setI_at, setI_R, upd2_at, I_add, I_addn, Int32.neg_neg, I_mul, I_ltI, I_leI, I_eqI, I_nat, if_true, if_false, reduceIte, reduceIteN, I_difn, bz_0, bz_1, nz_I, I_rem, I_div, I_sub, l4095, l32, l63, l0, l1, l2, l3, l4, l5, l6, l7, l8, l9, l10, l11, l12, l16, l24, l28, l31, l40, l48, l57, l64, l68, l78, l79, l99, l255, l2000, l2187, l1000000000, hs, hko, ha, and_self]
    rfl
  · have he : kdS t n i = (false, i) := by unfold kdS; rw [if_neg (by simpa using hk)]
    rw [he]
    have hno := no hk
    refine ⟨setI h 30 0 (-I 9), ?_, FxA.set (by decide), TM_ne T (by decide), by rw [setI_ne (by decide)]; exact ha, fun z => by cases z⟩
    have hneg : ¬ I 0 ≤ -I 9 := by decide
    simp (disch := first | assumption | exact FX_setI ‹_› | exact FX_setI (FX_setI ‹_›) | exact FX_setI (FX_setI (FX_setI ‹_›)) | exact FX_setI (FX_setI (FX_setI (FX_setI ‹_›))) | omega) only [gr_0_0, gr_0_1, gr_0_2, gr_0_3, gr_0_4, gr_0_5, gr_0_6, gr_0_7, gr_1_0, gr_1_5, gr_1_7, gr_5_3, gr_5_9, gr_8_3, gr_8_9, gr_11_3, gr_11_9, gr_14_0, gr_14_1, gr_14_2, gr_18_0, gr_18_1, gr_18_2, gr_24_0, gr_24_1, gr_24_2, gr_24_3, gr_24_5, gr_24_6, gr_24_10, gr_24_11, gr_24_12, gr_24_15, al_2, al_3, al_4, al_7, al_10, al_13, al_15, al_16, al_17, al_19, al_20, al_21, al_22, al_23, al_25, al_26, al_27, al_28, al_29, al_30, al_31, al_32, al_33, al_34, as_2, as_3, as_4, as_7, as_10, as_13, as_15, as_16, as_17, as_19, as_20, as_21, as_22, as_23, as_25, as_26, as_27, as_28, as_29, as_30, as_31, as_32, as_33, as_34, gi_0, gi_1, gi_5, gi_8, gi_11, gi_14, gi_18, gi_24, pi_0, pi_1, pi_5, pi_8, pi_11, pi_14, pi_18, pi_24, rc_0, rc_1, rc_5, rc_8, rc_11, rc_14, rc_18, rc_24, ln_2, ln_3, ln_4, ln_7, ln_10, ln_13, ln_15, ln_16, ln_17, ln_19, ln_20, ln_21, ln_22, ln_23, ln_25, ln_26, ln_27, ln_28, ln_29, ln_30, ln_31, ln_32, ln_33, ln_34, ln_6, ln_9, ln_12, ciN, cvN, lt_eq, nn_none, nn_some, setI_1, setI_at, setI_R, upd2_at, I_add, I_addn, Int32.neg_neg, I_mul, I_ltI, I_leI, I_eqI, I_nat, if_true, if_false, reduceIte, reduceIteN, I_difn, bz_0, bz_1, nz_I, I_rem, I_div, I_sub, l4095, l32, l63, l0, l1, l2, l3, l4, l5, l6, l7, l8, l9, l10, l11, l12, l16, l24, l28, l31, l40, l48, l57, l64, l68, l78, l79, l99, l255, l2000, l2187, l1000000000, hs, hno, and_self]
    rfl
