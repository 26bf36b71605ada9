/-- is p in every one of the first rows that G lets -/
def allr (G : Nat → Bool) (dg : Nat → Nat → Nat) (p : Nat) : Nat → Bool
  | 0 => true
  | r + 1 => allr G dg p r && (!G r || decide (0 < dg r p))
theorem allr_succ (G : Nat → Bool) (dg : Nat → Nat → Nat) (p r : Nat) : allr G dg p (r + 1) = (allr G dg p r && (!G r || decide (0 < dg r p))) := rfl
theorem allr_iff {G : Nat → Bool} {dg : Nat → Nat → Nat} {p : Nat} : ∀ n, allr G dg p n = true ↔ ∀ r, r < n → G r = true → 0 < dg r p
  | 0 => ⟨fun _ r hr => by omega, fun _ => rfl⟩
  | n + 1 => by
    rw [allr_succ, Bool.and_eq_true, allr_iff n]
    constructor
    · intro h r hr hg
      by_cases hrn : r = n
      · subst hrn
        have := h.2
        rw [hg] at this
        simpa using this
      · exact h.1 r (by omega) hg
    · intro h
      refine ⟨fun r hr hg => h r (by omega) hg, ?_⟩
      cases hg : G n
      · rfl
      · simpa using h n (by omega) hg
theorem and_msk (f g : Nat → Bool) (n : Nat) : msk f n &&& msk g n = msk (fun i => f i && g i) n := by
  apply Nat.eq_of_testBit_eq
  intro i
  rw [Nat.testBit_and, tb_msk, tb_msk, tb_msk]
  by_cases hi : i < n <;> simp [hi]
theorem msk_true (n : Nat) : msk (fun _ => true) n = 2 ^ n - 1 := by
  apply Nat.eq_of_testBit_eq
  intro i
  rw [tb_msk, Nat.testBit_two_pow_sub_one, Bool.and_true]
theorem msk_lt7 {σ : Nat → Nat} (W : WF σ) (f : Nat → Bool) : msk f (σ 2) < 128 := by
  have h1 := msk_lt f (σ 2)
  have h2 : 2 ^ σ 2 ≤ 2 ^ 7 := Nat.pow_le_pow_right (by decide) W.2.2.1
  have h3 : (2 : Nat) ^ 7 = 128 := by decide
  omega
theorem c_been {σ : Nat → Nat} {h : Hp} (W : WF σ) (F : FX h) (C : CO h 5 σ) : ∃ h', P_X5_been 0 h = some (I (cnt (fun row => decide (enc (cw σ zf row) = enc (cur σ))) (σ 1 ^ σ 2)), h') ∧ FxA [14, 15, 16] h h' := by
  have hcol := W.col
  obtain ⟨h1, e1, e2, e3⟩ := c_lead (f := zf) W F C (fun i _ => by unfold zf; omega)
  obtain ⟨F1, C1⟩ := FxA3 e2 (by simp) F C
  refine ⟨h1, ?_, e2⟩
  have k7'' : h1.2.1 5 7 = I (enc (cur σ)) := C1.1.2.2.2.2.2.2.1
  have hea := c_endingAt (g := cur σ) W F1 e3
  have ez : enc zf = 0 := by decide
  rw [ez] at e1
  unfold P_X5_been
  simp (disch := first | assumption | exact FX_setI ‹_› | exact FX_setI (FX_setI ‹_›) | exact FX_setI (FX_setI (FX_setI ‹_›)) | exact FX_setI (FX_setI (FX_setI (FX_setI ‹_›))) | omega) only [gr_0_0, gr_0_1, gr_0_2, gr_0_3, gr_0_4, gr_0_5, gr_0_6, gr_0_7, gr_1_0, gr_1_5, gr_1_7, gr_5_3, gr_5_9, gr_8_3, gr_8_9, gr_11_3, gr_11_9, gr_14_0, gr_14_1, gr_14_2, gr_18_0, gr_18_1, gr_18_2, gr_24_0, gr_24_1, gr_24_2, gr_24_3, gr_24_5, gr_24_6, gr_24_10, gr_24_11, gr_24_12, gr_24_15, al_2, al_3, al_4, al_7, al_10, al_13, al_15, al_16, al_17, al_19, al_20, al_21, al_22, al_23, al_25, al_26, al_27, al_28, al_29, al_30, al_31, al_32, al_33, al_34, as_2, as_3, as_4, as_7, as_10, as_13, as_15, as_16, as_17, as_19, as_20, as_21, as_22, as_23, as_25, as_26, as_27, as_28, as_29, as_30, as_31, as_32, as_33, as_34, gi_0, gi_1, gi_5, gi_8, gi_11, gi_14, gi_18, gi_24, pi_0, pi_1, pi_5, pi_8, pi_11, pi_14, pi_18, pi_24, rc_0, rc_1, rc_5, rc_8, rc_11, rc_14, rc_18, rc_24, ln_2, ln_3, ln_4, ln_7, ln_10, ln_13, ln_15, ln_16, ln_17, ln_19, ln_20, ln_21, ln_22, ln_23, ln_25, ln_26, ln_27, ln_28, ln_29, ln_30, ln_31, ln_32, ln_33, ln_34, ln_6, ln_9, ln_12, ci_some, cv_some, lt_eq, nn_none, nn_some, setI_1, setI_at, setI_R, upd2_at, I_add, I_addn, Int32.neg_neg, I_mul, I_ltI, I_leI, I_eqI, I_nat, if_true, if_false, reduceIte, reduceIteN, I_difn, bz_0, bz_1, nz_I, I_rem, I_div, I_sub, l4095, l32, l63, l0, l1, l2, l3, l4, l5, l6, l7, l8, l9, l10, l11, l12, l16, l24, l28, l31, l40, l48, l57, l64, l68, l78, l79, l99, l255, l2000, l2187, l1000000000, e1, k7'', hea]
theorem c_sure_L {σ : Nat → Nat} {h : Hp} (W : WF σ) (F : FX h) (C : CO h 5 σ) (L : LDS h σ zf) : ∀ (k r n : Nat), r + k = σ 1 ^ σ 2 → k < n →
    P_X5_sure_L28 n 0 (I (msk (fun p => allr (fun row => decide (enc (cw σ zf row) = enc (cur σ))) (dgc σ) p r) (σ 2))) (if 0 < cnt (fun row => decide (enc (cw σ zf row) = enc (cur σ))) r then I 1 else I 0) (I r) h
    = some (if 0 < cnt (fun row => decide (enc (cw σ zf row) = enc (cur σ))) (σ 1 ^ σ 2) then I (msk (fun p => allr (fun row => decide (enc (cw σ zf row) = enc (cur σ))) (dgc σ) p (σ 1 ^ σ 2)) (σ 2)) else I 0, h) := by
  have hN := W.rows.1
  have a4 := L.2.2.1
  have k7 : h.2.1 5 7 = I (enc (cur σ)) := C.1.2.2.2.2.2.2.1
  intro k
  induction k with
  | zero =>
    intro r n hr hn
    cases n with
    | zero => omega
    | succ n =>
      have : r = σ 1 ^ σ 2 := by omega
      rw [this]
      unfold P_X5_sure_L28
      simp (disch := first | assumption | exact FX_setI ‹_› | exact FX_setI (FX_setI ‹_›) | exact FX_setI (FX_setI (FX_setI ‹_›)) | exact FX_setI (FX_setI (FX_setI (FX_setI ‹_›))) | omega) only [gr_0_0, gr_0_1, gr_0_2, gr_0_3, gr_0_4, gr_0_5, gr_0_6, gr_0_7, gr_1_0, gr_1_5, gr_1_7, gr_5_3, gr_5_9, gr_8_3, gr_8_9, gr_11_3, gr_11_9, gr_14_0, gr_14_1, gr_14_2, gr_18_0, gr_18_1, gr_18_2, gr_24_0, gr_24_1, gr_24_2, gr_24_3, gr_24_5, gr_24_6, gr_24_10, gr_24_11, gr_24_12, gr_24_15, al_2, al_3, al_4, al_7, al_10, al_13, al_15, al_16, al_17, al_19, al_20, al_21, al_22, al_23, al_25, al_26, al_27, al_28, al_29, al_30, al_31, al_32, al_33, al_34, as_2, as_3, as_4, as_7, as_10, as_13, as_15, as_16, as_17, as_19, as_20, as_21, as_22, as_23, as_25, as_26, as_27, as_28, as_29, as_30, as_31, as_32, as_33, as_34, gi_0, gi_1, gi_5, gi_8, gi_11, gi_14, gi_18, gi_24, pi_0, pi_1, pi_5, pi_8, pi_11, pi_14, pi_18, pi_24, rc_0, rc_1, rc_5, rc_8, rc_11, rc_14, rc_18, rc_24, ln_2, ln_3, ln_4, ln_7, ln_10, ln_13, ln_15, ln_16, ln_17, ln_19, ln_20, ln_21, ln_22, ln_23, ln_25, ln_26, ln_27, ln_28, ln_29, ln_30, ln_31, ln_32, ln_33, ln_34, ln_6, ln_9, ln_12, ci_some, cv_some, lt_eq, nn_none, nn_some, setI_1, setI_at, setI_R, upd2_at, I_add, I_addn, Int32.neg_neg, I_mul, I_ltI, I_leI, I_eqI, I_nat, if_true, if_false, reduceIte, reduceIteN, I_difn, bz_0, bz_1, nz_I, I_rem, I_div, I_sub, l4095, l32, l63, l0, l1, l2, l3, l4, l5, l6, l7, l8, l9, l10, l11, l12, l16, l24, l28, l31, l40, l48, l57, l64, l68, l78, l79, l99, l255, l2000, l2187, l1000000000, a4]
      by_cases h0 : 0 < cnt (fun row => decide (enc (cw σ zf row) = enc (cur σ))) (σ 1 ^ σ 2)
      · rw [if_pos h0, if_pos h0]
        exact if_neg (show ¬ I 1 = I 0 by decide)
      · rw [if_neg h0, if_neg h0]
        exact if_pos rfl
  | succ k ih =>
    intro r n hr hn
    cases n with
    | zero => omega
    | succ n =>
      have ht := c_endOf W F L (show r < σ 1 ^ σ 2 by omega)
      have l1' := enc_lt (cw σ zf r)
      have l2' := enc_lt (cur σ)
      have hgo := c_goersIn W F L (row := r) (by omega)
      have h1 := ih (r + 1) n (by omega) (by omega)
      clear ih
      rw [cnt_succ] at h1
      have em : msk (fun p => allr (fun row => decide (enc (cw σ zf row) = enc (cur σ))) (dgc σ) p (r + 1)) (σ 2) = msk (fun p => allr (fun row => decide (enc (cw σ zf row) = enc (cur σ))) (dgc σ) p r && (!decide (enc (cw σ zf r) = enc (cur σ)) || decide (0 < dgc σ r p))) (σ 2) := rfl
      rw [em] at h1
      unfold P_X5_sure_L28
      simp (disch := first | assumption | exact FX_setI ‹_› | exact FX_setI (FX_setI ‹_›) | exact FX_setI (FX_setI (FX_setI ‹_›)) | exact FX_setI (FX_setI (FX_setI (FX_setI ‹_›))) | omega) only [gr_0_0, gr_0_1, gr_0_2, gr_0_3, gr_0_4, gr_0_5, gr_0_6, gr_0_7, gr_1_0, gr_1_5, gr_1_7, gr_5_3, gr_5_9, gr_8_3, gr_8_9, gr_11_3, gr_11_9, gr_14_0, gr_14_1, gr_14_2, gr_18_0, gr_18_1, gr_18_2, gr_24_0, gr_24_1, gr_24_2, gr_24_3, gr_24_5, gr_24_6, gr_24_10, gr_24_11, gr_24_12, gr_24_15, al_2, al_3, al_4, al_7, al_10, al_13, al_15, al_16, al_17, al_19, al_20, al_21, al_22, al_23, al_25, al_26, al_27, al_28, al_29, al_30, al_31, al_32, al_33, al_34, as_2, as_3, as_4, as_7, as_10, as_13, as_15, as_16, as_17, as_19, as_20, as_21, as_22, as_23, as_25, as_26, as_27, as_28, as_29, as_30, as_31, as_32, as_33, as_34, gi_0, gi_1, gi_5, gi_8, gi_11, gi_14, gi_18, gi_24, pi_0, pi_1, pi_5, pi_8, pi_11, pi_14, pi_18, pi_24, rc_0, rc_1, rc_5, rc_8, rc_11, rc_14, rc_18, rc_24, ln_2, ln_3, ln_4, ln_7, ln_10, ln_13, ln_15, ln_16, ln_17, ln_19, ln_20, ln_21, ln_22, ln_23, ln_25, ln_26, ln_27, ln_28, ln_29, ln_30, ln_31, ln_32, ln_33, ln_34, ln_6, ln_9, ln_12, ci_some, cv_some, lt_eq, nn_none, nn_some, setI_1, setI_at, setI_R, upd2_at, I_add, I_addn, Int32.neg_neg, I_mul, I_ltI, I_leI, I_eqI, I_nat, if_true, if_false, reduceIte, reduceIteN, I_difn, bz_0, bz_1, nz_I, I_rem, I_div, I_sub, l4095, l32, l63, l0, l1, l2, l3, l4, l5, l6, l7, l8, l9, l10, l11, l12, l16, l24, l28, l31, l40, l48, l57, l64, l68, l78, l79, l99, l255, l2000, l2187, l1000000000, a4, ht, k7, hgo, I_and]
      by_cases he : enc (cw σ zf r) = enc (cur σ)
      · rw [if_pos he]
        simp only [he, decide_true, Bool.not_true, Bool.false_or, if_true, ← and_msk] at h1
        rw [if_pos (by omega)] at h1
        exact h1
      · rw [if_neg he]
        simp only [he, decide_false, Bool.not_false, Bool.true_or, Bool.and_true, Bool.false_eq_true, if_false, Nat.add_zero] at h1
        exact h1
theorem c_sure {σ : Nat → Nat} {h : Hp} (W : WF σ) (F : FX h) (C : CO h 5 σ) : ∃ h', P_X5_sure 0 h = some (if 0 < cnt (fun row => decide (enc (cw σ zf row) = enc (cur σ))) (σ 1 ^ σ 2) then I (msk (fun p => allr (fun row => decide (enc (cw σ zf row) = enc (cur σ))) (dgc σ) p (σ 1 ^ σ 2)) (σ 2)) else I 0, h') ∧ FxA [14, 15, 16] h h' := by
  have hcol := W.col
  have h7 := W.2.2.1
  have hN := W.rows.1
  obtain ⟨h1, e1, e2, e3⟩ := c_lead (f := zf) W F C (fun i _ => by unfold zf; omega)
  obtain ⟨F1, C1⟩ := FxA3 e2 (by simp) F C
  refine ⟨h1, ?_, e2⟩
  have k2 : h1.2.1 5 2 = I (σ 2) := C1.1.2.2.1
  have hx := c_sure_L W F1 C1 e3 (σ 1 ^ σ 2) 0 FU (by omega) (by have := FU_eq; omega)
  have ez : enc zf = 0 := by decide
  rw [ez] at e1
  have hp := cpos (c := 2) (by decide) (σ 2)
  have em : msk (fun p => allr (fun row => decide (enc (cw σ zf row) = enc (cur σ))) (dgc σ) p 0) (σ 2) = 2 ^ σ 2 - 1 := msk_true (σ 2)
  rw [em, show cnt (fun row => decide (enc (cw σ zf row) = enc (cur σ))) 0 = 0 from rfl, if_neg (Nat.lt_irrefl 0)] at hx
  have e : (1 <<< σ 2) = 2 ^ σ 2 := by rw [Nat.one_shiftLeft]
  unfold P_X5_sure
  simp (disch := first | assumption | exact FX_setI ‹_› | exact FX_setI (FX_setI ‹_›) | exact FX_setI (FX_setI (FX_setI ‹_›)) | exact FX_setI (FX_setI (FX_setI (FX_setI ‹_›))) | omega) only [gr_0_0, gr_0_1, gr_0_2, gr_0_3, gr_0_4, gr_0_5, gr_0_6, gr_0_7, gr_1_0, gr_1_5, gr_1_7, gr_5_3, gr_5_9, gr_8_3, gr_8_9, gr_11_3, gr_11_9, gr_14_0, gr_14_1, gr_14_2, gr_18_0, gr_18_1, gr_18_2, gr_24_0, gr_24_1, gr_24_2, gr_24_3, gr_24_5, gr_24_6, gr_24_10, gr_24_11, gr_24_12, gr_24_15, al_2, al_3, al_4, al_7, al_10, al_13, al_15, al_16, al_17, al_19, al_20, al_21, al_22, al_23, al_25, al_26, al_27, al_28, al_29, al_30, al_31, al_32, al_33, al_34, as_2, as_3, as_4, as_7, as_10, as_13, as_15, as_16, as_17, as_19, as_20, as_21, as_22, as_23, as_25, as_26, as_27, as_28, as_29, as_30, as_31, as_32, as_33, as_34, gi_0, gi_1, gi_5, gi_8, gi_11, gi_14, gi_18, gi_24, pi_0, pi_1, pi_5, pi_8, pi_11, pi_14, pi_18, pi_24, rc_0, rc_1, rc_5, rc_8, rc_11, rc_14, rc_18, rc_24, ln_2, ln_3, ln_4, ln_7, ln_10, ln_13, ln_15, ln_16, ln_17, ln_19, ln_20, ln_21, ln_22, ln_23, ln_25, ln_26, ln_27, ln_28, ln_29, ln_30, ln_31, ln_32, ln_33, ln_34, ln_6, ln_9, ln_12, ci_some, cv_some, lt_eq, nn_none, nn_some, setI_1, setI_at, setI_R, upd2_at, I_add, I_addn, Int32.neg_neg, I_mul, I_ltI, I_leI, I_eqI, I_nat, if_true, if_false, reduceIte, reduceIteN, I_difn, bz_0, bz_1, nz_I, I_rem, I_div, I_sub, l4095, l32, l63, l0, l1, l2, l3, l4, l5, l6, l7, l8, l9, l10, l11, l12, l16, l24, l28, l31, l40, l48, l57, l64, l68, l78, l79, l99, l255, l2000, l2187, l1000000000, e1, k2, I_shl, e]
  exact hx
/-- does the model's row make it stand as now, from all at 0 -/
def bg (σ : Nat → Nat) (row : Nat) : Bool := decide (hr (σ 1) (mw σ zf row) 0 (σ 0) = hr (σ 1) (cur σ) 0 (σ 0))
theorem dif_one (f : Nat → Bool) (n p : Nat) : dif (msk f n) (1 <<< p) = msk (fun q => f q && !decide (q = p)) n := by
  apply Nat.eq_of_testBit_eq
  intro i
  rw [tb_dif, tb_msk, tb_msk, tb_one]
  by_cases hi : i < n <;> simp [hi]
theorem m_findsBeen_L64 {σ f : Nat → Nat} (W : WF σ) {row : Nat} (hr2 : row < 2147483648) (v11 : Int32) (kont : Hp → Option Hp) {s : Nat → Bool} : ∀ (k p n : Nat) (h : Hp), p + k = σ 2 → k < n → MS h (wset σ f) → h.2.1 24 14 = I (msk (fun q => s q && (!decide (q < p) || decide (0 < dgt (σ 1) row q))) (σ 2)) →
    ∃ h', P_X6_findsBeen_L64 n 24 v11 (I row) (I p) h kont = kont h' ∧ FxA [24] h h' ∧ MS h' (wset σ f) ∧ h'.2.1 24 14 = I (msk (fun q => s q && decide (0 < dgt (σ 1) row q)) (σ 2)) ∧ h'.2.1 24 13 = h.2.1 24 13 ∧ (∀ j, j ≠ 14 → h'.2.1 24 j = h.2.1 24 j) := by
  have h7 := W.2.2.1
  have hcol := W.col
  intro k
  induction k with
  | zero =>
    intro p n h hp hn M K
    cases n with
    | zero => omega
    | succ n =>
      have : p = σ 2 := by omega
      subst this
      refine ⟨h, ?_, FxA.rf, M, ?_, rfl, fun _ _ => rfl⟩
      · obtain ⟨F, hs⟩ := M
        unfold P_X6_findsBeen_L64
        simp (disch := first | assumption | exact FX_setI ‹_› | exact FX_setI (FX_setI ‹_›) | exact FX_setI (FX_setI (FX_setI ‹_›)) | exact FX_setI (FX_setI (FX_setI (FX_setI ‹_›))) | omega) only [gr_0_0, gr_0_1, gr_0_2, gr_0_3, gr_0_4, gr_0_5, gr_0_6, gr_0_7, gr_1_0, gr_1_5, gr_1_7, gr_5_3, gr_5_9, gr_8_3, gr_8_9, gr_11_3, gr_11_9, gr_14_0, gr_14_1, gr_14_2, gr_18_0, gr_18_1, gr_18_2, gr_24_0, gr_24_1, gr_24_2, gr_24_3, gr_24_5, gr_24_6, gr_24_10, gr_24_11, gr_24_12, gr_24_15, al_2, al_3, al_4, al_7, al_10, al_13, al_15, al_16, al_17, al_19, al_20, al_21, al_22, al_23, al_25, al_26, al_27, al_28, al_29, al_30, al_31, al_32, al_33, al_34, as_2, as_3, as_4, as_7, as_10, as_13, as_15, as_16, as_17, as_19, as_20, as_21, as_22, as_23, as_25, as_26, as_27, as_28, as_29, as_30, as_31, as_32, as_33, as_34, gi_0, gi_1, gi_5, gi_8, gi_11, gi_14, gi_18, gi_24, pi_0, pi_1, pi_5, pi_8, pi_11, pi_14, pi_18, pi_24, rc_0, rc_1, rc_5, rc_8, rc_11, rc_14, rc_18, rc_24, ln_2, ln_3, ln_4, ln_7, ln_10, ln_13, ln_15, ln_16, ln_17, ln_19, ln_20, ln_21, ln_22, ln_23, ln_25, ln_26, ln_27, ln_28, ln_29, ln_30, ln_31, ln_32, ln_33, ln_34, ln_6, ln_9, ln_12, ci_some, cv_some, lt_eq, nn_none, nn_some, setI_1, setI_at, setI_R, upd2_at, I_add, I_addn, Int32.neg_neg, I_mul, I_ltI, I_leI, I_eqI, I_nat, if_true, if_false, reduceIte, reduceIteN, I_difn, bz_0, bz_1, nz_I, I_rem, I_div, I_sub, l4095, l32, l63, l0, l1, l2, l3, l4, l5, l6, l7, l8, l9, l10, l11, l12, l16, l24, l28, l31, l40, l48, l57, l64, l68, l78, l79, l99, l255, l2000, l2187, l1000000000, hs, wset_lo]
      · rw [K]
        congr 1
        exact msk_congr (fun i hi => by simp [hi])
  | succ k ih =>
    intro p n h hp hn M K
    cases n with
    | zero => omega
    | succ n =>
      have ht := m_timesOf W M (p := p) hr2 (by omega)
      have hd := dgt_lt (c := σ 1) (by omega) row p
      by_cases h0 : dgt (σ 1) row p = 0
      · obtain ⟨h', e1, e2, e3, e4, e5, e6⟩ := ih (p + 1) n (setI h 24 14 (I (dif (msk (fun q => s q && (!decide (q < p) || decide (0 < dgt (σ 1) row q))) (σ 2)) (1 <<< p)))) (by omega) (by omega) ⟨M.1, fun j hj => by rw [setI_at, if_neg (by omega)]; exact M.2 j hj⟩ (by
          rw [setI_at, if_pos ⟨rfl, rfl⟩, dif_one]
          congr 1
          apply msk_congr
          intro i hi
          by_cases hip : i = p
          · subst hip; simp [h0]
          · have : decide (i < p + 1) = decide (i < p) := decide_eq_decide.mpr (by omega)
            simp [hip, this])
        refine ⟨h', ?_, (FxA.set (by simp)).tr e2, e3, e4, by rw [e5, setI_at, if_neg (by omega)], fun j hj => by rw [e6 j hj, setI_at, if_neg (by omega)]⟩
        obtain ⟨F, hs⟩ := M
        unfold P_X6_findsBeen_L64
        simp (disch := first | assumption | exact FX_setI ‹_› | exact FX_setI (FX_setI ‹_›) | exact FX_setI (FX_setI (FX_setI ‹_›)) | exact FX_setI (FX_setI (FX_setI (FX_setI ‹_›))) | omega) only [gr_0_0, gr_0_1, gr_0_2, gr_0_3, gr_0_4, gr_0_5, gr_0_6, gr_0_7, gr_1_0, gr_1_5, gr_1_7, gr_5_3, gr_5_9, gr_8_3, gr_8_9, gr_11_3, gr_11_9, gr_14_0, gr_14_1, gr_14_2, gr_18_0, gr_18_1, gr_18_2, gr_24_0, gr_24_1, gr_24_2, gr_24_3, gr_24_5, gr_24_6, gr_24_10, gr_24_11, gr_24_12, gr_24_15, al_2, al_3, al_4, al_7, al_10, al_13, al_15, al_16, al_17, al_19, al_20, al_21, al_22, al_23, al_25, al_26, al_27, al_28, al_29, al_30, al_31, al_32, al_33, al_34, as_2, as_3, as_4, as_7, as_10, as_13, as_15, as_16, as_17, as_19, as_20, as_21, as_22, as_23, as_25, as_26, as_27, as_28, as_29, as_30, as_31, as_32, as_33, as_34, gi_0, gi_1, gi_5, gi_8, gi_11, gi_14, gi_18, gi_24, pi_0, pi_1, pi_5, pi_8, pi_11, pi_14, pi_18, pi_24, rc_0, rc_1, rc_5, rc_8, rc_11, rc_14, rc_18, rc_24, ln_2, ln_3, ln_4, ln_7, ln_10, ln_13, ln_15, ln_16, ln_17, ln_19, ln_20, ln_21, ln_22, ln_23, ln_25, ln_26, ln_27, ln_28, ln_29, ln_30, ln_31, ln_32, ln_33, ln_34, ln_6, ln_9, ln_12, ci_some, cv_some, lt_eq, nn_none, nn_some, setI_1, setI_at, setI_R, upd2_at, I_add, I_addn, Int32.neg_neg, I_mul, I_ltI, I_leI, I_eqI, I_nat, if_true, if_false, reduceIte, reduceIteN, I_difn, bz_0, bz_1, nz_I, I_rem, I_div, I_sub, l4095, l32, l63, l0, l1, l2, l3, l4, l5, l6, l7, l8, l9, l10, l11, l12, l16, l24, l28, l31, l40, l48, l57, l64, l68, l78, l79, l99, l255, l2000, l2187, l1000000000, hs, wset_lo, ht, h0, K, I_shl]
        exact e1
      · obtain ⟨h', e1, e2, e3, e4, e5, e6⟩ := ih (p + 1) n h (by omega) (by omega) M (by
          rw [K]
          congr 1
          apply msk_congr
          intro i hi
          by_cases hip : i = p
          · subst hip
            have : 0 < dgt (σ 1) row i := by omega
            simp [this]
          · have : decide (i < p + 1) = decide (i < p) := decide_eq_decide.mpr (by omega)
            simp [this])
        refine ⟨h', ?_, e2, e3, e4, e5, e6⟩
        obtain ⟨F, hs⟩ := M
        unfold P_X6_findsBeen_L64
        simp (disch := first | assumption | exact FX_setI ‹_› | exact FX_setI (FX_setI ‹_›) | exact FX_setI (FX_setI (FX_setI ‹_›)) | exact FX_setI (FX_setI (FX_setI (FX_setI ‹_›))) | omega) only [gr_0_0, gr_0_1, gr_0_2, gr_0_3, gr_0_4, gr_0_5, gr_0_6, gr_0_7, gr_1_0, gr_1_5, gr_1_7, gr_5_3, gr_5_9, gr_8_3, gr_8_9, gr_11_3, gr_11_9, gr_14_0, gr_14_1, gr_14_2, gr_18_0, gr_18_1, gr_18_2, gr_24_0, gr_24_1, gr_24_2, gr_24_3, gr_24_5, gr_24_6, gr_24_10, gr_24_11, gr_24_12, gr_24_15, al_2, al_3, al_4, al_7, al_10, al_13, al_15, al_16, al_17, al_19, al_20, al_21, al_22, al_23, al_25, al_26, al_27, al_28, al_29, al_30, al_31, al_32, al_33, al_34, as_2, as_3, as_4, as_7, as_10, as_13, as_15, as_16, as_17, as_19, as_20, as_21, as_22, as_23, as_25, as_26, as_27, as_28, as_29, as_30, as_31, as_32, as_33, as_34, gi_0, gi_1, gi_5, gi_8, gi_11, gi_14, gi_18, gi_24, pi_0, pi_1, pi_5, pi_8, pi_11, pi_14, pi_18, pi_24, rc_0, rc_1, rc_5, rc_8, rc_11, rc_14, rc_18, rc_24, ln_2, ln_3, ln_4, ln_7, ln_10, ln_13, ln_15, ln_16, ln_17, ln_19, ln_20, ln_21, ln_22, ln_23, ln_25, ln_26, ln_27, ln_28, ln_29, ln_30, ln_31, ln_32, ln_33, ln_34, ln_6, ln_9, ln_12, ci_some, cv_some, lt_eq, nn_none, nn_some, setI_1, setI_at, setI_R, upd2_at, I_add, I_addn, Int32.neg_neg, I_mul, I_ltI, I_leI, I_eqI, I_nat, if_true, if_false, reduceIte, reduceIteN, I_difn, bz_0, bz_1, nz_I, I_rem, I_div, I_sub, l4095, l32, l63, l0, l1, l2, l3, l4, l5, l6, l7, l8, l9, l10, l11, l12, l16, l24, l28, l31, l40, l48, l57, l64, l68, l78, l79, l99, l255, l2000, l2187, l1000000000, hs, wset_lo, ht]
        exact e1
theorem m_findsBeen_L24 {σ : Nat → Nat} (W : WF σ) : ∀ (k r n : Nat) (h : Hp) (f : Nat → Nat), r + k = σ 1 ^ σ 2 → k < n → KS h (cur σ) → MS h (wset σ f) → h.2.1 24 13 = I (cnt (bg σ) r) → h.2.1 24 14 = I (msk (fun p => allr (bg σ) (dgt (σ 1)) p r) (σ 2)) →
    ∃ h', P_X6_findsBeen_L24 n 24 (I (hr (σ 1) (cur σ) 0 (σ 0))) (I r) h = some h' ∧ FxA [24, 26, 33] h h' ∧ MS h' σ ∧ h'.2.1 24 13 = I (cnt (bg σ) (σ 1 ^ σ 2)) ∧ h'.2.1 24 14 = I (msk (fun p => allr (bg σ) (dgt (σ 1)) p (σ 1 ^ σ 2)) (σ 2)) ∧ (∀ j, j ≠ 13 → j ≠ 14 → h'.2.1 24 j = h.2.1 24 j) := by
  have hN := W.rows.1
  have hcol := W.col
  have hn0 := W.1
  intro k
  induction k with
  | zero =>
    intro r n h f hrr hn K M B S
    cases n with
    | zero => omega
    | succ n =>
      have : r = σ 1 ^ σ 2 := by omega
      subst this
      obtain ⟨h', e1, e2, e3⟩ := m_putsBack K M
      have e24 := e2.2.2 24 (by decide)
      refine ⟨h', ?_, e2.up (by simp), MS_uncur e3, by rw [e24]; exact B, by rw [e24]; exact S, fun j _ _ => by rw [e24]⟩
      have hro := m_rows W M
      have F := M.1
      unfold P_X6_findsBeen_L24
      simp (disch := first | assumption | exact FX_setI ‹_› | exact FX_setI (FX_setI ‹_›) | exact FX_setI (FX_setI (FX_setI ‹_›)) | exact FX_setI (FX_setI (FX_setI (FX_setI ‹_›))) | omega) only [gr_0_0, gr_0_1, gr_0_2, gr_0_3, gr_0_4, gr_0_5, gr_0_6, gr_0_7, gr_1_0, gr_1_5, gr_1_7, gr_5_3, gr_5_9, gr_8_3, gr_8_9, gr_11_3, gr_11_9, gr_14_0, gr_14_1, gr_14_2, gr_18_0, gr_18_1, gr_18_2, gr_24_0, gr_24_1, gr_24_2, gr_24_3, gr_24_5, gr_24_6, gr_24_10, gr_24_11, gr_24_12, gr_24_15, al_2, al_3, al_4, al_7, al_10, al_13, al_15, al_16, al_17, al_19, al_20, al_21, al_22, al_23, al_25, al_26, al_27, al_28, al_29, al_30, al_31, al_32, al_33, al_34, as_2, as_3, as_4, as_7, as_10, as_13, as_15, as_16, as_17, as_19, as_20, as_21, as_22, as_23, as_25, as_26, as_27, as_28, as_29, as_30, as_31, as_32, as_33, as_34, gi_0, gi_1, gi_5, gi_8, gi_11, gi_14, gi_18, gi_24, pi_0, pi_1, pi_5, pi_8, pi_11, pi_14, pi_18, pi_24, rc_0, rc_1, rc_5, rc_8, rc_11, rc_14, rc_18, rc_24, ln_2, ln_3, ln_4, ln_7, ln_10, ln_13, ln_15, ln_16, ln_17, ln_19, ln_20, ln_21, ln_22, ln_23, ln_25, ln_26, ln_27, ln_28, ln_29, ln_30, ln_31, ln_32, ln_33, ln_34, ln_6, ln_9, ln_12, ci_some, cv_some, lt_eq, nn_none, nn_some, setI_1, setI_at, setI_R, upd2_at, I_add, I_addn, Int32.neg_neg, I_mul, I_ltI, I_leI, I_eqI, I_nat, if_true, if_false, reduceIte, reduceIteN, I_difn, bz_0, bz_1, nz_I, I_rem, I_div, I_sub, l4095, l32, l63, l0, l1, l2, l3, l4, l5, l6, l7, l8, l9, l10, l11, l12, l16, l24, l28, l31, l40, l48, l57, l64, l68, l78, l79, l99, l255, l2000, l2187, l1000000000, hro, e1]
  | succ k ih =>
    intro r n h f hrr hn K M B S
    cases n with
    | zero => omega
    | succ n =>
      have hro := m_rows W M
      have F := M.1
      have hzf : ∀ i, i < 12 → zf i < σ 1 := fun i _ => by unfold zf; omega
      obtain ⟨h1, b1, b2, b3⟩ := m_zeroes M
      obtain ⟨h2, a1, a2, a3⟩ := m_goesRow (row := r) W (by omega) hzf b3
      have hst := m_stateNow W a3 (fun i _ => wy_lt W zf _ _ i)
      have hh1 := hr_lt (c := σ 1) (f := wy σ zf (dgt (σ 1) r) (σ 2)) (σ 0) 0 (fun i _ hi => wy_lt W zf _ _ i)
      have hh2 := hr_lt (c := σ 1) (f := cur σ) (σ 0) 0 (fun i _ hi => W.cur i (by omega))
      have hp12 := pow_bd (c := σ 1) (k := σ 0) (by omega) hn0.2
      have K2 : KS h2 (cur σ) := fun i hi => by rw [a2.2.2 33 (by decide), b2.2.2 33 (by decide)]; exact K i hi
      have e24 : h2.2.1 24 = h.2.1 24 := by rw [a2.2.2 24 (by decide), b2.2.2 24 (by decide)]
      have F1 := b3.1
      have F2 := a3.1
      have hbg : bg σ r = decide (hr (σ 1) (wy σ zf (dgt (σ 1) r) (σ 2)) 0 (σ 0) = hr (σ 1) (cur σ) 0 (σ 0)) := rfl
      by_cases he : hr (σ 1) (wy σ zf (dgt (σ 1) r) (σ 2)) 0 (σ 0) = hr (σ 1) (cur σ) 0 (σ 0)
      · have M3 : MS (setI h2 24 13 (I (cnt (bg σ) r + 1))) (wset σ (wy σ zf (dgt (σ 1) r) (σ 2))) := ⟨F2, fun j hj => by rw [setI_at, if_neg (by omega)]; exact a3.2 j hj⟩
        obtain ⟨h4, c1, c2, c3, c4, c5, c6⟩ := m_findsBeen_L64 (s := fun p => allr (bg σ) (dgt (σ 1)) p r) W (row := r) (by omega) (I (hr (σ 1) (cur σ) 0 (σ 0))) (fun h16 => lt (I r + 1) fun v19 => P_X6_findsBeen_L24 n 24 (I (hr (σ 1) (cur σ) 0 (σ 0))) v19 h16) (σ 2) 0 FU _ (by omega) (by have := FU_eq; have := W.2.2.1; omega) M3 (by
          rw [setI_at, if_neg (by omega), e24, S]
          congr 1
          exact msk_congr (fun i hi => by simp))
        have K4 : KS h4 (cur σ) := fun i hi => by rw [c2.2.2 33 (by decide), setI_at, if_neg (by omega)]; exact K2 i hi
        obtain ⟨h5, r1, r2, r3, r4, r5, r6⟩ := ih (r + 1) n h4 _ (by omega) (by omega) K4 c3 (by
          rw [c5, setI_at, if_pos ⟨rfl, rfl⟩, cnt_succ, hbg]
          simp [he]) (by
          rw [c4]
          congr 1
          apply msk_congr
          intro i hi
          rw [allr_succ, hbg]
          simp [he])
        refine ⟨h5, ?_, ((((b2.up (by simp)).tr (a2.up (by simp))).tr (FxA.set (by simp))).tr (c2.up (by simp))).tr r2, r3, r4, r5, fun j hj1 hj2 => ?_⟩
        · clear ih
          simp (disch := first | assumption | exact FX_setI ‹_› | exact FX_setI (FX_setI ‹_›) | exact FX_setI (FX_setI (FX_setI ‹_›)) | exact FX_setI (FX_setI (FX_setI (FX_setI ‹_›))) | omega) only [gr_0_0, gr_0_1, gr_0_2, gr_0_3, gr_0_4, gr_0_5, gr_0_6, gr_0_7, gr_1_0, gr_1_5, gr_1_7, gr_5_3, gr_5_9, gr_8_3, gr_8_9, gr_11_3, gr_11_9, gr_14_0, gr_14_1, gr_14_2, gr_18_0, gr_18_1, gr_18_2, gr_24_0, gr_24_1, gr_24_2, gr_24_3, gr_24_5, gr_24_6, gr_24_10, gr_24_11, gr_24_12, gr_24_15, al_2, al_3, al_4, al_7, al_10, al_13, al_15, al_16, al_17, al_19, al_20, al_21, al_22, al_23, al_25, al_26, al_27, al_28, al_29, al_30, al_31, al_32, al_33, al_34, as_2, as_3, as_4, as_7, as_10, as_13, as_15, as_16, as_17, as_19, as_20, as_21, as_22, as_23, as_25, as_26, as_27, as_28, as_29, as_30, as_31, as_32, as_33, as_34, gi_0, gi_1, gi_5, gi_8, gi_11, gi_14, gi_18, gi_24, pi_0, pi_1, pi_5, pi_8, pi_11, pi_14, pi_18, pi_24, rc_0, rc_1, rc_5, rc_8, rc_11, rc_14, rc_18, rc_24, ln_2, ln_3, ln_4, ln_7, ln_10, ln_13, ln_15, ln_16, ln_17, ln_19, ln_20, ln_21, ln_22, ln_23, ln_25, ln_26, ln_27, ln_28, ln_29, ln_30, ln_31, ln_32, ln_33, ln_34, ln_6, ln_9, ln_12, ci_some, cv_some, lt_eq, nn_none, nn_some, setI_1, setI_at, setI_R, upd2_at, I_add, I_addn, Int32.neg_neg, I_mul, I_ltI, I_leI, I_eqI, I_nat, if_true, if_false, reduceIte, reduceIteN, I_difn, bz_0, bz_1, nz_I, I_rem, I_div, I_sub, l4095, l32, l63, l0, l1, l2, l3, l4, l5, l6, l7, l8, l9, l10, l11, l12, l16, l24, l28, l31, l40, l48, l57, l64, l68, l78, l79, l99, l255, l2000, l2187, l1000000000] at c1
          unfold P_X6_findsBeen_L24
          simp (disch := first | assumption | exact FX_setI ‹_› | exact FX_setI (FX_setI ‹_›) | exact FX_setI (FX_setI (FX_setI ‹_›)) | exact FX_setI (FX_setI (FX_setI (FX_setI ‹_›))) | omega) only [gr_0_0, gr_0_1, gr_0_2, gr_0_3, gr_0_4, gr_0_5, gr_0_6, gr_0_7, gr_1_0, gr_1_5, gr_1_7, gr_5_3, gr_5_9, gr_8_3, gr_8_9, gr_11_3, gr_11_9, gr_14_0, gr_14_1, gr_14_2, gr_18_0, gr_18_1, gr_18_2, gr_24_0, gr_24_1, gr_24_2, gr_24_3, gr_24_5, gr_24_6, gr_24_10, gr_24_11, gr_24_12, gr_24_15, al_2, al_3, al_4, al_7, al_10, al_13, al_15, al_16, al_17, al_19, al_20, al_21, al_22, al_23, al_25, al_26, al_27, al_28, al_29, al_30, al_31, al_32, al_33, al_34, as_2, as_3, as_4, as_7, as_10, as_13, as_15, as_16, as_17, as_19, as_20, as_21, as_22, as_23, as_25, as_26, as_27, as_28, as_29, as_30, as_31, as_32, as_33, as_34, gi_0, gi_1, gi_5, gi_8, gi_11, gi_14, gi_18, gi_24, pi_0, pi_1, pi_5, pi_8, pi_11, pi_14, pi_18, pi_24, rc_0, rc_1, rc_5, rc_8, rc_11, rc_14, rc_18, rc_24, ln_2, ln_3, ln_4, ln_7, ln_10, ln_13, ln_15, ln_16, ln_17, ln_19, ln_20, ln_21, ln_22, ln_23, ln_25, ln_26, ln_27, ln_28, ln_29, ln_30, ln_31, ln_32, ln_33, ln_34, ln_6, ln_9, ln_12, ci_some, cv_some, lt_eq, nn_none, nn_some, setI_1, setI_at, setI_R, upd2_at, I_add, I_addn, Int32.neg_neg, I_mul, I_ltI, I_leI, I_eqI, I_nat, if_true, if_false, reduceIte, reduceIteN, I_difn, bz_0, bz_1, nz_I, I_rem, I_div, I_sub, l4095, l32, l63, l0, l1, l2, l3, l4, l5, l6, l7, l8, l9, l10, l11, l12, l16, l24, l28, l31, l40, l48, l57, l64, l68, l78, l79, l99, l255, l2000, l2187, l1000000000, hro, b1, a1, hst, e24, B]
          rw [c1]
          exact r1
        · rw [r6 j hj1 hj2, c6 j hj2, setI_at, if_neg (by omega), e24]
      · obtain ⟨h5, r1, r2, r3, r4, r5, r6⟩ := ih (r + 1) n h2 _ (by omega) (by omega) K2 a3 (by
          rw [e24, B, cnt_succ, hbg]
          simp [he]) (by
          rw [e24, S]
          congr 1
          apply msk_congr
          intro i hi
          rw [allr_succ, hbg]
          simp [he])
        refine ⟨h5, ?_, ((b2.up (by simp)).tr (a2.up (by simp))).tr r2, r3, r4, r5, fun j hj1 hj2 => by rw [r6 j hj1 hj2, e24]⟩
        clear ih
        unfold P_X6_findsBeen_L24
        simp (disch := first | assumption | exact FX_setI ‹_› | exact FX_setI (FX_setI ‹_›) | exact FX_setI (FX_setI (FX_setI ‹_›)) | exact FX_setI (FX_setI (FX_setI (FX_setI ‹_›))) | omega) only [gr_0_0, gr_0_1, gr_0_2, gr_0_3, gr_0_4, gr_0_5, gr_0_6, gr_0_7, gr_1_0, gr_1_5, gr_1_7, gr_5_3, gr_5_9, gr_8_3, gr_8_9, gr_11_3, gr_11_9, gr_14_0, gr_14_1, gr_14_2, gr_18_0, gr_18_1, gr_18_2, gr_24_0, gr_24_1, gr_24_2, gr_24_3, gr_24_5, gr_24_6, gr_24_10, gr_24_11, gr_24_12, gr_24_15, al_2, al_3, al_4, al_7, al_10, al_13, al_15, al_16, al_17, al_19, al_20, al_21, al_22, al_23, al_25, al_26, al_27, al_28, al_29, al_30, al_31, al_32, al_33, al_34, as_2, as_3, as_4, as_7, as_10, as_13, as_15, as_16, as_17, as_19, as_20, as_21, as_22, as_23, as_25, as_26, as_27, as_28, as_29, as_30, as_31, as_32, as_33, as_34, gi_0, gi_1, gi_5, gi_8, gi_11, gi_14, gi_18, gi_24, pi_0, pi_1, pi_5, pi_8, pi_11, pi_14, pi_18, pi_24, rc_0, rc_1, rc_5, rc_8, rc_11, rc_14, rc_18, rc_24, ln_2, ln_3, ln_4, ln_7, ln_10, ln_13, ln_15, ln_16, ln_17, ln_19, ln_20, ln_21, ln_22, ln_23, ln_25, ln_26, ln_27, ln_28, ln_29, ln_30, ln_31, ln_32, ln_33, ln_34, ln_6, ln_9, ln_12, ci_some, cv_some, lt_eq, nn_none, nn_some, setI_1, setI_at, setI_R, upd2_at, I_add, I_addn, Int32.neg_neg, I_mul, I_ltI, I_leI, I_eqI, I_nat, if_true, if_false, reduceIte, reduceIteN, I_difn, bz_0, bz_1, nz_I, I_rem, I_div, I_sub, l4095, l32, l63, l0, l1, l2, l3, l4, l5, l6, l7, l8, l9, l10, l11, l12, l16, l24, l28, l31, l40, l48, l57, l64, l68, l78, l79, l99, l255, l2000, l2187, l1000000000, hro, b1, a1, hst]
        exact r1
theorem m_findsBeen {σ : Nat → Nat} {h : Hp} (W : WF σ) (M : MS h σ) : ∃ h', P_X6_findsBeen 24 h = some h' ∧ FxA [24, 26, 33] h h' ∧ MS h' σ ∧ h'.2.1 24 13 = I (cnt (bg σ) (σ 1 ^ σ 2)) ∧ h'.2.1 24 14 = I (msk (fun p => allr (bg σ) (dgt (σ 1)) p (σ 1 ^ σ 2)) (σ 2)) ∧ (∀ j, j ≠ 13 → j ≠ 14 → h'.2.1 24 j = h.2.1 24 j) := by
  have hN := W.rows.1
  have hst := m_stateNow W (MSc M) W.cur
  have M1 : MS (setI h 24 13 (I 0)) (wset σ (cur σ)) := ⟨M.1, fun j hj => by rw [setI_at, if_neg (by omega)]; exact (MSc M).2 j hj⟩
  have M2 : MS (setI (setI h 24 13 (I 0)) 24 14 (I (2 ^ σ 2 - 1))) (wset σ (cur σ)) := ⟨M.1, fun j hj => by rw [setI_at, if_neg (by omega)]; exact M1.2 j hj⟩
  have ha := m_allPeople W M1
  obtain ⟨h1, a1, a2, a3, a4⟩ := m_keeps M2
  have e24 := a2.2.2 24 (by decide)
  obtain ⟨h2, r1, r2, r3, r4, r5, r6⟩ := m_findsBeen_L24 W (σ 1 ^ σ 2) 0 FU h1 (cur σ) (by omega) (by have := FU_eq; omega) a3 a4 (by rw [e24, setI_at, if_neg (by omega), setI_at, if_pos ⟨rfl, rfl⟩]; rfl) (by
    rw [e24, setI_at, if_pos ⟨rfl, rfl⟩, ← msk_true]
    rfl)
  refine ⟨h2, ?_, (((FxA.set (by simp)).tr (FxA.set (by simp))).tr (a2.up (by simp))).tr r2, r3, r4, r5, fun j hj1 hj2 => by rw [r6 j hj1 hj2, e24, setI_at, if_neg (by omega), setI_at, if_neg (by omega)]⟩
  have F := M.1
  have F1 := a4.1
  unfold P_X6_findsBeen
  simp (disch := first | assumption | exact FX_setI ‹_› | exact FX_setI (FX_setI ‹_›) | exact FX_setI (FX_setI (FX_setI ‹_›)) | exact FX_setI (FX_setI (FX_setI (FX_setI ‹_›))) | omega) only [gr_0_0, gr_0_1, gr_0_2, gr_0_3, gr_0_4, gr_0_5, gr_0_6, gr_0_7, gr_1_0, gr_1_5, gr_1_7, gr_5_3, gr_5_9, gr_8_3, gr_8_9, gr_11_3, gr_11_9, gr_14_0, gr_14_1, gr_14_2, gr_18_0, gr_18_1, gr_18_2, gr_24_0, gr_24_1, gr_24_2, gr_24_3, gr_24_5, gr_24_6, gr_24_10, gr_24_11, gr_24_12, gr_24_15, al_2, al_3, al_4, al_7, al_10, al_13, al_15, al_16, al_17, al_19, al_20, al_21, al_22, al_23, al_25, al_26, al_27, al_28, al_29, al_30, al_31, al_32, al_33, al_34, as_2, as_3, as_4, as_7, as_10, as_13, as_15, as_16, as_17, as_19, as_20, as_21, as_22, as_23, as_25, as_26, as_27, as_28, as_29, as_30, as_31, as_32, as_33, as_34, gi_0, gi_1, gi_5, gi_8, gi_11, gi_14, gi_18, gi_24, pi_0, pi_1, pi_5, pi_8, pi_11, pi_14, pi_18, pi_24, rc_0, rc_1, rc_5, rc_8, rc_11, rc_14, rc_18, rc_24, ln_2, ln_3, ln_4, ln_7, ln_10, ln_13, ln_15, ln_16, ln_17, ln_19, ln_20, ln_21, ln_22, ln_23, ln_25, ln_26, ln_27, ln_28, ln_29, ln_30, ln_31, ln_32, ln_33, ln_34, ln_6, ln_9, ln_12, ci_some, cv_some, lt_eq, nn_none, nn_some, setI_1, setI_at, setI_R, upd2_at, I_add, I_addn, Int32.neg_neg, I_mul, I_ltI, I_leI, I_eqI, I_nat, if_true, if_false, reduceIte, reduceIteN, I_difn, bz_0, bz_1, nz_I, I_rem, I_div, I_sub, l4095, l32, l63, l0, l1, l2, l3, l4, l5, l6, l7, l8, l9, l10, l11, l12, l16, l24, l28, l31, l40, l48, l57, l64, l68, l78, l79, l99, l255, l2000, l2187, l1000000000, hst, ha, a1]
  exact r1
theorem m_been {σ : Nat → Nat} {h : Hp} (W : WF σ) (M : MS h σ) : ∃ h', P_X6_been 24 h = some (I (cnt (bg σ) (σ 1 ^ σ 2)), h') ∧ FxA [24, 26, 33] h h' ∧ MS h' σ ∧ (∀ j, j ≠ 13 → j ≠ 14 → h'.2.1 24 j = h.2.1 24 j) := by
  obtain ⟨h1, e1, e2, e3, e4, e5, e6⟩ := m_findsBeen W M
  refine ⟨h1, ?_, e2, e3, e6⟩
  have F := M.1
  have F1 := e3.1
  unfold P_X6_been
  simp (disch := first | assumption | exact FX_setI ‹_› | exact FX_setI (FX_setI ‹_›) | exact FX_setI (FX_setI (FX_setI ‹_›)) | exact FX_setI (FX_setI (FX_setI (FX_setI ‹_›))) | omega) only [gr_0_0, gr_0_1, gr_0_2, gr_0_3, gr_0_4, gr_0_5, gr_0_6, gr_0_7, gr_1_0, gr_1_5, gr_1_7, gr_5_3, gr_5_9, gr_8_3, gr_8_9, gr_11_3, gr_11_9, gr_14_0, gr_14_1, gr_14_2, gr_18_0, gr_18_1, gr_18_2, gr_24_0, gr_24_1, gr_24_2, gr_24_3, gr_24_5, gr_24_6, gr_24_10, gr_24_11, gr_24_12, gr_24_15, al_2, al_3, al_4, al_7, al_10, al_13, al_15, al_16, al_17, al_19, al_20, al_21, al_22, al_23, al_25, al_26, al_27, al_28, al_29, al_30, al_31, al_32, al_33, al_34, as_2, as_3, as_4, as_7, as_10, as_13, as_15, as_16, as_17, as_19, as_20, as_21, as_22, as_23, as_25, as_26, as_27, as_28, as_29, as_30, as_31, as_32, as_33, as_34, gi_0, gi_1, gi_5, gi_8, gi_11, gi_14, gi_18, gi_24, pi_0, pi_1, pi_5, pi_8, pi_11, pi_14, pi_18, pi_24, rc_0, rc_1, rc_5, rc_8, rc_11, rc_14, rc_18, rc_24, ln_2, ln_3, ln_4, ln_7, ln_10, ln_13, ln_15, ln_16, ln_17, ln_19, ln_20, ln_21, ln_22, ln_23, ln_25, ln_26, ln_27, ln_28, ln_29, ln_30, ln_31, ln_32, ln_33, ln_34, ln_6, ln_9, ln_12, ci_some, cv_some, lt_eq, nn_none, nn_some, setI_1, setI_at, setI_R, upd2_at, I_add, I_addn, Int32.neg_neg, I_mul, I_ltI, I_leI, I_eqI, I_nat, if_true, if_false, reduceIte, reduceIteN, I_difn, bz_0, bz_1, nz_I, I_rem, I_div, I_sub, l4095, l32, l63, l0, l1, l2, l3, l4, l5, l6, l7, l8, l9, l10, l11, l12, l16, l24, l28, l31, l40, l48, l57, l64, l68, l78, l79, l99, l255, l2000, l2187, l1000000000, e1, e4]
theorem m_sure {σ : Nat → Nat} {h : Hp} (W : WF σ) (M : MS h σ) : ∃ h', P_X6_sure 24 h = some (if 0 < cnt (bg σ) (σ 1 ^ σ 2) then I (msk (fun p => allr (bg σ) (dgt (σ 1)) p (σ 1 ^ σ 2)) (σ 2)) else I 0, h') ∧ FxA [24, 26, 33] h h' ∧ MS h' σ ∧ (∀ j, j ≠ 13 → j ≠ 14 → h'.2.1 24 j = h.2.1 24 j) := by
  have hN := W.rows.1
  obtain ⟨h1, e1, e2, e3, e4, e5, e6⟩ := m_findsBeen W M
  refine ⟨h1, ?_, e2, e3, e6⟩
  have F := M.1
  have F1 := e3.1
  have hle := cnt_le (bg σ) (σ 1 ^ σ 2)
  unfold P_X6_sure
  simp (disch := first | assumption | exact FX_setI ‹_› | exact FX_setI (FX_setI ‹_›) | exact FX_setI (FX_setI (FX_setI ‹_›)) | exact FX_setI (FX_setI (FX_setI (FX_setI ‹_›))) | omega) only [gr_0_0, gr_0_1, gr_0_2, gr_0_3, gr_0_4, gr_0_5, gr_0_6, gr_0_7, gr_1_0, gr_1_5, gr_1_7, gr_5_3, gr_5_9, gr_8_3, gr_8_9, gr_11_3, gr_11_9, gr_14_0, gr_14_1, gr_14_2, gr_18_0, gr_18_1, gr_18_2, gr_24_0, gr_24_1, gr_24_2, gr_24_3, gr_24_5, gr_24_6, gr_24_10, gr_24_11, gr_24_12, gr_24_15, al_2, al_3, al_4, al_7, al_10, al_13, al_15, al_16, al_17, al_19, al_20, al_21, al_22, al_23, al_25, al_26, al_27, al_28, al_29, al_30, al_31, al_32, al_33, al_34, as_2, as_3, as_4, as_7, as_10, as_13, as_15, as_16, as_17, as_19, as_20, as_21, as_22, as_23, as_25, as_26, as_27, as_28, as_29, as_30, as_31, as_32, as_33, as_34, gi_0, gi_1, gi_5, gi_8, gi_11, gi_14, gi_18, gi_24, pi_0, pi_1, pi_5, pi_8, pi_11, pi_14, pi_18, pi_24, rc_0, rc_1, rc_5, rc_8, rc_11, rc_14, rc_18, rc_24, ln_2, ln_3, ln_4, ln_7, ln_10, ln_13, ln_15, ln_16, ln_17, ln_19, ln_20, ln_21, ln_22, ln_23, ln_25, ln_26, ln_27, ln_28, ln_29, ln_30, ln_31, ln_32, ln_33, ln_34, ln_6, ln_9, ln_12, ci_some, cv_some, lt_eq, nn_none, nn_some, setI_1, setI_at, setI_R, upd2_at, I_add, I_addn, Int32.neg_neg, I_mul, I_ltI, I_leI, I_eqI, I_nat, if_true, if_false, reduceIte, reduceIteN, I_difn, bz_0, bz_1, nz_I, I_rem, I_div, I_sub, l4095, l32, l63, l0, l1, l2, l3, l4, l5, l6, l7, l8, l9, l10, l11, l12, l16, l24, l28, l31, l40, l48, l57, l64, l68, l78, l79, l99, l255, l2000, l2187, l1000000000, e1, e4, e5]
  by_cases h0 : cnt (bg σ) (σ 1 ^ σ 2) = 0
  · rw [if_pos h0, if_neg (by omega)]
  · rw [if_neg h0, if_pos (by omega)]
theorem bg_rv {σ : Nat → Nat} (W : WF σ) {r : Nat} (hr0 : r < σ 1 ^ σ 2) : decide (enc (cw σ zf r) = enc (cur σ)) = bg σ (rv (σ 1) (σ 2) r) := by
  have hcol := W.col
  have hn := W.1
  unfold bg
  apply decide_eq_decide.mpr
  rw [enc_congr (cw_rv (f := zf) W hr0)]
  constructor
  · intro h
    have h1 := enc_inj (fun i _ => by have := wy_lt W zf (dgt (σ 1) (rv (σ 1) (σ 2) r)) (σ 2) i; unfold mw; omega) (fun i hi => by have := W.cur i hi; omega) h
    exact hr_congr _ _ (fun i _ hi => h1 i (by omega))
  · intro h
    have h1 := hr_inj (c := σ 1) (σ 0) 0 (fun i _ hi => ⟨wy_lt W zf _ _ i, W.cur i (by omega)⟩) h
    apply enc_congr
    intro i hi
    by_cases hin : i < σ 0
    · exact h1 i (Nat.zero_le _) (by omega)
    · have h2 := wy_beyond (f := zf) (dg := dgt (σ 1) (rv (σ 1) (σ 2) r)) W (i := i) (by omega) (by unfold zf; omega) (σ 2)
      have h3 := (W.2.2.2.2.2.2.2.2.2 i (by omega) hi).1
      unfold mw cur
      rw [h2, h3]
      rfl
theorem been_eq {σ : Nat → Nat} (W : WF σ) : cnt (fun row => decide (enc (cw σ zf row) = enc (cur σ))) (σ 1 ^ σ 2) = cnt (bg σ) (σ 1 ^ σ 2) := by
  rw [← cnt_rv (by have := W.col; omega) (σ 2) (bg σ)]
  exact cnt_congr _ (fun r hr0 => bg_rv W hr0)
theorem sure_eq {σ : Nat → Nat} (W : WF σ) : msk (fun p => allr (fun row => decide (enc (cw σ zf row) = enc (cur σ))) (dgc σ) p (σ 1 ^ σ 2)) (σ 2) = msk (fun p => allr (bg σ) (dgt (σ 1)) p (σ 1 ^ σ 2)) (σ 2) := by
  have hc : 0 < σ 1 := by have := W.col; omega
  apply msk_congr
  intro p hp
  have : allr (fun row => decide (enc (cw σ zf row) = enc (cur σ))) (dgc σ) p (σ 1 ^ σ 2) = true ↔ allr (bg σ) (dgt (σ 1)) p (σ 1 ^ σ 2) = true := by
    rw [allr_iff, allr_iff]
    constructor
    · intro h r hr0 hg
      have h1 := rv_lt hc _ _ hr0
      have h2 := h _ h1 (by rw [bg_rv W h1, rv_rv hc hr0]; exact hg)
      rw [dgc_rv W h1 hp, rv_rv hc hr0] at h2
      exact h2
    · intro h r hr0 hg
      have h1 := rv_lt hc _ _ hr0
      rw [dgc_rv W hr0 hp]
      exact h _ h1 (by rw [← bg_rv W hr0]; exact hg)
  cases h1 : allr (fun row => decide (enc (cw σ zf row) = enc (cur σ))) (dgc σ) p (σ 1 ^ σ 2) <;> cases h2 : allr (bg σ) (dgt (σ 1)) p (σ 1 ^ σ 2) <;> simp_all
