theorem m_stateNow_L {σ f : Nat → Nat} {h : Hp} (W : WF σ) (M : MS h (wset σ f)) (hf : ∀ i, i < 12 → f i < σ 1) : ∀ (d k n : Nat), d + k = σ 0 → d < n → P_X6_stateNow_L11 n 24 (I (hr (σ 1) f d k)) (I d + -I 1) h = some (I (hr (σ 1) f 0 (σ 0)), h) := by
  have hcol := W.col
  have hn := W.1
  obtain ⟨F, hs⟩ := M
  intro d
  induction d with
  | zero =>
    intro k n hk hn2
    cases n with
    | zero => omega
    | succ n =>
      unfold P_X6_stateNow_L11
      rw [if_pos (by decide), ← hk, Nat.zero_add]
  | succ d ih =>
    intro k n hk hn2
    cases n with
    | zero => omega
    | succ n =>
      have hb := hr_lt (c := σ 1) (f := f) k (d + 1) (fun i a b => hf i (by omega))
      have hp := pow_bd (c := σ 1) (k := k) (by omega) (by omega)
      have hd : d < 12 := by omega
      have h11 := ih (k + 1) n (by omega) (by omega)
      have e0 : I (d + 1) + -I 1 = I d := by rw [I_addn (by omega), Nat.add_sub_cancel]
      rw [e0]
      unfold P_X6_stateNow_L11
      simp (disch := first | assumption | exact FX_setI ‹_› | exact FX_setI (FX_setI ‹_›) | exact FX_setI (FX_setI (FX_setI ‹_›)) | exact FX_setI (FX_setI (FX_setI (FX_setI ‹_›))) | omega) only [gr_0_0, gr_0_1, gr_0_2, gr_0_3, gr_0_4, gr_0_5, gr_0_6, gr_0_7, gr_1_0, gr_1_5, gr_1_7, gr_5_3, gr_5_9, gr_8_3, gr_8_9, gr_11_3, gr_11_9, gr_14_0, gr_14_1, gr_14_2, gr_18_0, gr_18_1, gr_18_2, gr_24_0, gr_24_1, gr_24_2, gr_24_3, gr_24_5, gr_24_6, gr_24_10, gr_24_11, gr_24_12, gr_24_15, al_2, al_3, al_4, al_7, al_10, al_13, al_15, al_16, al_17, al_19, al_20, al_21, al_22, al_23, al_25, al_26, al_27, al_28, al_29, al_30, al_31, al_32, al_33, al_34, as_2, as_3, as_4, as_7, as_10, as_13, as_15, as_16, as_17, as_19, as_20, as_21, as_22, as_23, as_25, as_26, as_27, as_28, as_29, as_30, as_31, as_32, as_33, as_34, gi_0, gi_1, gi_5, gi_8, gi_11, gi_14, gi_18, gi_24, pi_0, pi_1, pi_5, pi_8, pi_11, pi_14, pi_18, pi_24, rc_0, rc_1, rc_5, rc_8, rc_11, rc_14, rc_18, rc_24, ln_2, ln_3, ln_4, ln_7, ln_10, ln_13, ln_15, ln_16, ln_17, ln_19, ln_20, ln_21, ln_22, ln_23, ln_25, ln_26, ln_27, ln_28, ln_29, ln_30, ln_31, ln_32, ln_33, ln_34, ln_6, ln_9, ln_12, ci_some, cv_some, lt_eq, nn_none, nn_some, setI_1, setI_at, setI_R, upd2_at, I_add, I_addn, Int32.neg_neg, I_mul, I_ltI, I_leI, I_eqI, I_nat, if_true, if_false, reduceIte, reduceIteN, I_difn, bz_0, bz_1, nz_I, I_rem, I_div, I_sub, l4095, l32, l63, l0, l1, l2, l3, l4, l5, l6, l7, l8, l9, l10, l11, l12, l16, l24, l28, l31, l40, l48, l57, l64, l68, l78, l79, l99, l255, l2000, l2187, l1000000000, hs, wset_lo, wset_w]
      have e2 : σ 1 * hr (σ 1) f (d + 1) k + f d = hr (σ 1) f d (k + 1) := by
        show _ = f d + σ 1 * hr (σ 1) f (d + 1) k
        rw [Nat.add_comm]
      rw [e2]
      by_cases hd0 : 1 ≤ d
      · rw [I_addn hd0] at h11
        simp (disch := first | assumption | exact FX_setI ‹_› | exact FX_setI (FX_setI ‹_›) | exact FX_setI (FX_setI (FX_setI ‹_›)) | exact FX_setI (FX_setI (FX_setI (FX_setI ‹_›))) | omega) only [gr_0_0, gr_0_1, gr_0_2, gr_0_3, gr_0_4, gr_0_5, gr_0_6, gr_0_7, gr_1_0, gr_1_5, gr_1_7, gr_5_3, gr_5_9, gr_8_3, gr_8_9, gr_11_3, gr_11_9, gr_14_0, gr_14_1, gr_14_2, gr_18_0, gr_18_1, gr_18_2, gr_24_0, gr_24_1, gr_24_2, gr_24_3, gr_24_5, gr_24_6, gr_24_10, gr_24_11, gr_24_12, gr_24_15, al_2, al_3, al_4, al_7, al_10, al_13, al_15, al_16, al_17, al_19, al_20, al_21, al_22, al_23, al_25, al_26, al_27, al_28, al_29, al_30, al_31, al_32, al_33, al_34, as_2, as_3, as_4, as_7, as_10, as_13, as_15, as_16, as_17, as_19, as_20, as_21, as_22, as_23, as_25, as_26, as_27, as_28, as_29, as_30, as_31, as_32, as_33, as_34, gi_0, gi_1, gi_5, gi_8, gi_11, gi_14, gi_18, gi_24, pi_0, pi_1, pi_5, pi_8, pi_11, pi_14, pi_18, pi_24, rc_0, rc_1, rc_5, rc_8, rc_11, rc_14, rc_18, rc_24, ln_2, ln_3, ln_4, ln_7, ln_10, ln_13, ln_15, ln_16, ln_17, ln_19, ln_20, ln_21, ln_22, ln_23, ln_25, ln_26, ln_27, ln_28, ln_29, ln_30, ln_31, ln_32, ln_33, ln_34, ln_6, ln_9, ln_12, ci_some, cv_some, lt_eq, nn_none, nn_some, setI_1, setI_at, setI_R, upd2_at, I_add, I_addn, Int32.neg_neg, I_mul, I_ltI, I_leI, I_eqI, I_nat, if_true, if_false, reduceIte, reduceIteN, I_difn, bz_0, bz_1, nz_I, I_rem, I_div, I_sub, l4095, l32, l63, l0, l1, l2, l3, l4, l5, l6, l7, l8, l9, l10, l11, l12, l16, l24, l28, l31, l40, l48, l57, l64, l68, l78, l79, l99, l255, l2000, l2187, l1000000000]
        exact h11
      · exact h11
theorem m_stateNow {σ f : Nat → Nat} {h : Hp} (W : WF σ) (M : MS h (wset σ f)) (hf : ∀ i, i < 12 → f i < σ 1) : P_X6_stateNow 24 h = some (I (hr (σ 1) f 0 (σ 0)), h) := by
  have hn := W.1
  have h1 := m_stateNow_L W M hf (σ 0) 0 FU (by omega) (by have := FU_eq; omega)
  obtain ⟨F, hs⟩ := M
  unfold P_X6_stateNow
  simp (disch := first | assumption | exact FX_setI ‹_› | exact FX_setI (FX_setI ‹_›) | exact FX_setI (FX_setI (FX_setI ‹_›)) | exact FX_setI (FX_setI (FX_setI (FX_setI ‹_›))) | omega) only [gr_0_0, gr_0_1, gr_0_2, gr_0_3, gr_0_4, gr_0_5, gr_0_6, gr_0_7, gr_1_0, gr_1_5, gr_1_7, gr_5_3, gr_5_9, gr_8_3, gr_8_9, gr_11_3, gr_11_9, gr_14_0, gr_14_1, gr_14_2, gr_18_0, gr_18_1, gr_18_2, gr_24_0, gr_24_1, gr_24_2, gr_24_3, gr_24_5, gr_24_6, gr_24_10, gr_24_11, gr_24_12, gr_24_15, al_2, al_3, al_4, al_7, al_10, al_13, al_15, al_16, al_17, al_19, al_20, al_21, al_22, al_23, al_25, al_26, al_27, al_28, al_29, al_30, al_31, al_32, al_33, al_34, as_2, as_3, as_4, as_7, as_10, as_13, as_15, as_16, as_17, as_19, as_20, as_21, as_22, as_23, as_25, as_26, as_27, as_28, as_29, as_30, as_31, as_32, as_33, as_34, gi_0, gi_1, gi_5, gi_8, gi_11, gi_14, gi_18, gi_24, pi_0, pi_1, pi_5, pi_8, pi_11, pi_14, pi_18, pi_24, rc_0, rc_1, rc_5, rc_8, rc_11, rc_14, rc_18, rc_24, ln_2, ln_3, ln_4, ln_7, ln_10, ln_13, ln_15, ln_16, ln_17, ln_19, ln_20, ln_21, ln_22, ln_23, ln_25, ln_26, ln_27, ln_28, ln_29, ln_30, ln_31, ln_32, ln_33, ln_34, ln_6, ln_9, ln_12, ci_some, cv_some, lt_eq, nn_none, nn_some, setI_1, setI_at, setI_R, upd2_at, I_add, I_addn, Int32.neg_neg, I_mul, I_ltI, I_leI, I_eqI, I_nat, if_true, if_false, reduceIte, reduceIteN, I_difn, bz_0, bz_1, nz_I, I_rem, I_div, I_sub, l4095, l32, l63, l0, l1, l2, l3, l4, l5, l6, l7, l8, l9, l10, l11, l12, l16, l24, l28, l31, l40, l48, l57, l64, l68, l78, l79, l99, l255, l2000, l2187, l1000000000, hs, wset_lo]
  rw [I_addn hn.1] at h1
  exact h1
/-- all people as bits -/
def apl (σ : Nat → Nat) : Nat := 1 <<< σ 2 - 1
theorem m_allPeople {σ f : Nat → Nat} {h : Hp} (W : WF σ) (M : MS h (wset σ f)) : P_X6_allPeople 24 h = some (I (2 ^ σ 2 - 1), h) := by
  have h7 := W.2.2.1
  have hp := cpos (c := 2) (by decide) (σ 2)
  obtain ⟨F, hs⟩ := M
  unfold P_X6_allPeople
  have e : (1 <<< σ 2) = 2 ^ σ 2 := by rw [Nat.one_shiftLeft]
  simp (disch := first | assumption | exact FX_setI ‹_› | exact FX_setI (FX_setI ‹_›) | exact FX_setI (FX_setI (FX_setI ‹_›)) | exact FX_setI (FX_setI (FX_setI (FX_setI ‹_›))) | omega) only [gr_0_0, gr_0_1, gr_0_2, gr_0_3, gr_0_4, gr_0_5, gr_0_6, gr_0_7, gr_1_0, gr_1_5, gr_1_7, gr_5_3, gr_5_9, gr_8_3, gr_8_9, gr_11_3, gr_11_9, gr_14_0, gr_14_1, gr_14_2, gr_18_0, gr_18_1, gr_18_2, gr_24_0, gr_24_1, gr_24_2, gr_24_3, gr_24_5, gr_24_6, gr_24_10, gr_24_11, gr_24_12, gr_24_15, al_2, al_3, al_4, al_7, al_10, al_13, al_15, al_16, al_17, al_19, al_20, al_21, al_22, al_23, al_25, al_26, al_27, al_28, al_29, al_30, al_31, al_32, al_33, al_34, as_2, as_3, as_4, as_7, as_10, as_13, as_15, as_16, as_17, as_19, as_20, as_21, as_22, as_23, as_25, as_26, as_27, as_28, as_29, as_30, as_31, as_32, as_33, as_34, gi_0, gi_1, gi_5, gi_8, gi_11, gi_14, gi_18, gi_24, pi_0, pi_1, pi_5, pi_8, pi_11, pi_14, pi_18, pi_24, rc_0, rc_1, rc_5, rc_8, rc_11, rc_14, rc_18, rc_24, ln_2, ln_3, ln_4, ln_7, ln_10, ln_13, ln_15, ln_16, ln_17, ln_19, ln_20, ln_21, ln_22, ln_23, ln_25, ln_26, ln_27, ln_28, ln_29, ln_30, ln_31, ln_32, ln_33, ln_34, ln_6, ln_9, ln_12, ci_some, cv_some, lt_eq, nn_none, nn_some, setI_1, setI_at, setI_R, upd2_at, I_add, I_addn, Int32.neg_neg, I_mul, I_ltI, I_leI, I_eqI, I_nat, if_true, if_false, reduceIte, reduceIteN, I_difn, bz_0, bz_1, nz_I, I_rem, I_div, I_sub, l4095, l32, l63, l0, l1, l2, l3, l4, l5, l6, l7, l8, l9, l10, l11, l12, l16, l24, l28, l31, l40, l48, l57, l64, l68, l78, l79, l99, l255, l2000, l2187, l1000000000, hs, wset_lo, I_shl, e]
/-- is a row one of a set of people's alone -/
def ins (S : Nat) (dg : Nat → Nat) : Nat → Bool
  | 0 => true
  | p + 1 => ins S dg p && (S.testBit p || decide (dg p = 0))
theorem ins_succ (S : Nat) (dg : Nat → Nat) (p : Nat) : ins S dg (p + 1) = (ins S dg p && (S.testBit p || decide (dg p = 0))) := rfl
theorem shr_bit (S p : Nat) : (S >>> p &&& 1 = 1) = (S.testBit p = true) := by
  rw [Nat.testBit]
  rw [Nat.and_comm]
  simp
theorem bI (b : Bool) : (if b then I 1 else I 0 : Int32) = I (if b then 1 else 0) := by cases b <;> rfl
theorem m_nothingBy_L26 {σ f : Nat → Nat} {h : Hp} (W : WF σ) (M : MS h (wset σ f)) {S row : Nat} (hS : S < 128) (hr : row < 2147483648) (v10 : Int32) (kont : Int32 → Hp → Option (Int32 × Hp)) : ∀ (k p n : Nat), p + k = σ 2 → k < n →
    P_X6_nothingBy_L26 n 24 (I S) v10 (I row) (if ins S (dgt (σ 1) row) p then I 1 else I 0) (I p) h kont = kont (if ins S (dgt (σ 1) row) (σ 2) then I 1 else I 0) h := by
  have h7 := W.2.2.1
  have hcol := W.col
  obtain ⟨F, hs⟩ := id M
  intro k
  induction k with
  | zero =>
    intro p n hp hn
    cases n with
    | zero => omega
    | succ n =>
      have : p = σ 2 := by omega
      subst this
      unfold P_X6_nothingBy_L26
      simp (disch := first | assumption | exact FX_setI ‹_› | exact FX_setI (FX_setI ‹_›) | exact FX_setI (FX_setI (FX_setI ‹_›)) | exact FX_setI (FX_setI (FX_setI (FX_setI ‹_›))) | omega) only [gr_0_0, gr_0_1, gr_0_2, gr_0_3, gr_0_4, gr_0_5, gr_0_6, gr_0_7, gr_1_0, gr_1_5, gr_1_7, gr_5_3, gr_5_9, gr_8_3, gr_8_9, gr_11_3, gr_11_9, gr_14_0, gr_14_1, gr_14_2, gr_18_0, gr_18_1, gr_18_2, gr_24_0, gr_24_1, gr_24_2, gr_24_3, gr_24_5, gr_24_6, gr_24_10, gr_24_11, gr_24_12, gr_24_15, al_2, al_3, al_4, al_7, al_10, al_13, al_15, al_16, al_17, al_19, al_20, al_21, al_22, al_23, al_25, al_26, al_27, al_28, al_29, al_30, al_31, al_32, al_33, al_34, as_2, as_3, as_4, as_7, as_10, as_13, as_15, as_16, as_17, as_19, as_20, as_21, as_22, as_23, as_25, as_26, as_27, as_28, as_29, as_30, as_31, as_32, as_33, as_34, gi_0, gi_1, gi_5, gi_8, gi_11, gi_14, gi_18, gi_24, pi_0, pi_1, pi_5, pi_8, pi_11, pi_14, pi_18, pi_24, rc_0, rc_1, rc_5, rc_8, rc_11, rc_14, rc_18, rc_24, ln_2, ln_3, ln_4, ln_7, ln_10, ln_13, ln_15, ln_16, ln_17, ln_19, ln_20, ln_21, ln_22, ln_23, ln_25, ln_26, ln_27, ln_28, ln_29, ln_30, ln_31, ln_32, ln_33, ln_34, ln_6, ln_9, ln_12, ci_some, cv_some, lt_eq, nn_none, nn_some, setI_1, setI_at, setI_R, upd2_at, I_add, I_addn, Int32.neg_neg, I_mul, I_ltI, I_leI, I_eqI, I_nat, if_true, if_false, reduceIte, reduceIteN, I_difn, bz_0, bz_1, nz_I, I_rem, I_div, I_sub, l4095, l32, l63, l0, l1, l2, l3, l4, l5, l6, l7, l8, l9, l10, l11, l12, l16, l24, l28, l31, l40, l48, l57, l64, l68, l78, l79, l99, l255, l2000, l2187, l1000000000, hs, wset_lo]
  | succ k ih =>
    intro p n hp hn
    cases n with
    | zero => omega
    | succ n =>
      have ht := m_timesOf W M (p := p) hr (by omega)
      have hd := dgt_lt (c := σ 1) (by omega) row p
      have h1 := ih (p + 1) n (by omega) (by omega)
      have hsp : S >>> p ≤ S := Nat.shiftRight_le _ _
      have hsa : S >>> p &&& 1 < 128 := and_lt (by omega)
      rw [ins_succ] at h1
      unfold P_X6_nothingBy_L26
      simp (disch := first | assumption | exact FX_setI ‹_› | exact FX_setI (FX_setI ‹_›) | exact FX_setI (FX_setI (FX_setI ‹_›)) | exact FX_setI (FX_setI (FX_setI (FX_setI ‹_›))) | omega) only [gr_0_0, gr_0_1, gr_0_2, gr_0_3, gr_0_4, gr_0_5, gr_0_6, gr_0_7, gr_1_0, gr_1_5, gr_1_7, gr_5_3, gr_5_9, gr_8_3, gr_8_9, gr_11_3, gr_11_9, gr_14_0, gr_14_1, gr_14_2, gr_18_0, gr_18_1, gr_18_2, gr_24_0, gr_24_1, gr_24_2, gr_24_3, gr_24_5, gr_24_6, gr_24_10, gr_24_11, gr_24_12, gr_24_15, al_2, al_3, al_4, al_7, al_10, al_13, al_15, al_16, al_17, al_19, al_20, al_21, al_22, al_23, al_25, al_26, al_27, al_28, al_29, al_30, al_31, al_32, al_33, al_34, as_2, as_3, as_4, as_7, as_10, as_13, as_15, as_16, as_17, as_19, as_20, as_21, as_22, as_23, as_25, as_26, as_27, as_28, as_29, as_30, as_31, as_32, as_33, as_34, gi_0, gi_1, gi_5, gi_8, gi_11, gi_14, gi_18, gi_24, pi_0, pi_1, pi_5, pi_8, pi_11, pi_14, pi_18, pi_24, rc_0, rc_1, rc_5, rc_8, rc_11, rc_14, rc_18, rc_24, ln_2, ln_3, ln_4, ln_7, ln_10, ln_13, ln_15, ln_16, ln_17, ln_19, ln_20, ln_21, ln_22, ln_23, ln_25, ln_26, ln_27, ln_28, ln_29, ln_30, ln_31, ln_32, ln_33, ln_34, ln_6, ln_9, ln_12, ci_some, cv_some, lt_eq, nn_none, nn_some, setI_1, setI_at, setI_R, upd2_at, I_add, I_addn, Int32.neg_neg, I_mul, I_ltI, I_leI, I_eqI, I_nat, if_true, if_false, reduceIte, reduceIteN, I_difn, bz_0, bz_1, nz_I, I_rem, I_div, I_sub, l4095, l32, l63, l0, l1, l2, l3, l4, l5, l6, l7, l8, l9, l10, l11, l12, l16, l24, l28, l31, l40, l48, l57, l64, l68, l78, l79, l99, l255, l2000, l2187, l1000000000, hs, wset_lo, I_shr, I_and, shr_bit, ht]
      cases hi : ins S (dgt (σ 1) row) p
      · rw [hi] at h1
        simp only [Bool.false_and, Bool.false_eq_true, if_false, if_true] at h1 ⊢
        exact h1
      · rw [hi] at h1
        simp only [Bool.true_and, if_true] at h1 ⊢
        rw [if_neg (show ¬ I 1 = I 0 by decide)]
        cases hb : S.testBit p
        · rw [hb] at h1
          simp only [Bool.false_or, Bool.false_eq_true, if_false, decide_eq_true_eq] at h1 ⊢
          by_cases h0 : dgt (σ 1) row p = 0
          · rw [if_pos h0] at h1 ⊢
            exact h1
          · rw [if_neg h0] at h1 ⊢
            exact h1
        · rw [hb] at h1
          simp only [Bool.true_or, if_true] at h1 ⊢
          exact h1
def zf : Nat → Nat := fun _ => 0
/-- does the row, of the set's people alone, change nothing -/
def nbp (σ : Nat → Nat) (S row : Nat) : Bool := ins S (dgt (σ 1) row) (σ 2) && decide (hr (σ 1) (mw σ zf row) 0 (σ 0) = 0)
theorem m_nothingBy_L12 {σ g : Nat → Nat} (W : WF σ) {S : Nat} (hS : S < 128) : ∀ (k r n : Nat) (h : Hp), r + k = σ 1 ^ σ 2 → k < n → KS h g → MS h (wset σ zf) →
    ∃ h', P_X6_nothingBy_L12 n 24 (I S) (I (cnt (nbp σ S) r)) (I r) h = some (I (cnt (nbp σ S) (σ 1 ^ σ 2)), h') ∧ FxA [26] h h' ∧ MS h' (wset σ g) := by
  have hN := W.rows.1
  have hcol := W.col
  have hn0 := W.1
  intro k
  induction k with
  | zero =>
    intro r n h hrr hn K M
    cases n with
    | zero => omega
    | succ n =>
      have : r = σ 1 ^ σ 2 := by omega
      obtain ⟨h', e1, e2, e3⟩ := m_putsBack K M
      refine ⟨h', ?_, e2, e3⟩
      have hro := m_rows W M
      have F := M.1
      rw [this]
      unfold P_X6_nothingBy_L12
      simp (disch := first | assumption | exact FX_setI ‹_› | exact FX_setI (FX_setI ‹_›) | exact FX_setI (FX_setI (FX_setI ‹_›)) | exact FX_setI (FX_setI (FX_setI (FX_setI ‹_›))) | omega) only [gr_0_0, gr_0_1, gr_0_2, gr_0_3, gr_0_4, gr_0_5, gr_0_6, gr_0_7, gr_1_0, gr_1_5, gr_1_7, gr_5_3, gr_5_9, gr_8_3, gr_8_9, gr_11_3, gr_11_9, gr_14_0, gr_14_1, gr_14_2, gr_18_0, gr_18_1, gr_18_2, gr_24_0, gr_24_1, gr_24_2, gr_24_3, gr_24_5, gr_24_6, gr_24_10, gr_24_11, gr_24_12, gr_24_15, al_2, al_3, al_4, al_7, al_10, al_13, al_15, al_16, al_17, al_19, al_20, al_21, al_22, al_23, al_25, al_26, al_27, al_28, al_29, al_30, al_31, al_32, al_33, al_34, as_2, as_3, as_4, as_7, as_10, as_13, as_15, as_16, as_17, as_19, as_20, as_21, as_22, as_23, as_25, as_26, as_27, as_28, as_29, as_30, as_31, as_32, as_33, as_34, gi_0, gi_1, gi_5, gi_8, gi_11, gi_14, gi_18, gi_24, pi_0, pi_1, pi_5, pi_8, pi_11, pi_14, pi_18, pi_24, rc_0, rc_1, rc_5, rc_8, rc_11, rc_14, rc_18, rc_24, ln_2, ln_3, ln_4, ln_7, ln_10, ln_13, ln_15, ln_16, ln_17, ln_19, ln_20, ln_21, ln_22, ln_23, ln_25, ln_26, ln_27, ln_28, ln_29, ln_30, ln_31, ln_32, ln_33, ln_34, ln_6, ln_9, ln_12, ci_some, cv_some, lt_eq, nn_none, nn_some, setI_1, setI_at, setI_R, upd2_at, I_add, I_addn, Int32.neg_neg, I_mul, I_ltI, I_leI, I_eqI, I_nat, if_true, if_false, reduceIte, reduceIteN, I_difn, bz_0, bz_1, nz_I, I_rem, I_div, I_sub, l4095, l32, l63, l0, l1, l2, l3, l4, l5, l6, l7, l8, l9, l10, l11, l12, l16, l24, l28, l31, l40, l48, l57, l64, l68, l78, l79, l99, l255, l2000, l2187, l1000000000, hro, e1]
  | succ k ih =>
    intro r n h hrr hn K M
    cases n with
    | zero => omega
    | succ n =>
      have hro := m_rows W M
      have F := M.1
      have hzf : ∀ i, i < 12 → zf i < σ 1 := fun i _ => by unfold zf; omega
      obtain ⟨h1, a1, a2, a3⟩ := m_goesRow (row := r) W (by omega) hzf M
      have hst := m_stateNow W a3 (fun i _ => wy_lt W zf _ _ i)
      obtain ⟨h2, b1, b2, b3⟩ := m_zeroes a3
      have K2 : KS h2 g := fun i hi => by rw [b2.2.2 33 (by decide), a2.2.2 33 (by decide)]; exact K i hi
      have F1 := a3.1
      have F2 := b3.1
      have hhr := hr_lt (c := σ 1) (f := wy σ zf (dgt (σ 1) r) (σ 2)) (σ 0) 0 (fun i _ hi => wy_lt W zf _ _ i)
      have hp12 := pow_bd (c := σ 1) (k := σ 0) (by omega) hn0.2
      have h26 := fun kont => m_nothingBy_L26 W M hS (row := r) (by omega) (I (cnt (nbp σ S) r)) kont (σ 2) 0 FU (by omega) (by have := FU_eq; have := W.2.2.1; omega)
      have hins0 : (if ins S (dgt (σ 1) r) 0 then I 1 else I 0 : Int32) = I 1 := rfl
      rw [hins0] at h26
      have hnb : nbp σ S r = (ins S (dgt (σ 1) r) (σ 2) && decide (hr (σ 1) (wy σ zf (dgt (σ 1) r) (σ 2)) 0 (σ 0) = 0)) := rfl
      cases hi : ins S (dgt (σ 1) r) (σ 2)
      · obtain ⟨h3, r1, r2, r3⟩ := ih (r + 1) n h (by omega) (by omega) K M
        refine ⟨h3, ?_, r2, r3⟩
        rw [cnt_succ, hnb, hi] at r1
        simp only [Bool.false_and, Bool.false_eq_true, if_false, Nat.add_zero] at r1
        rw [hi] at h26
        clear ih a1 a2 a3 hst b1 b2 b3 K2
        unfold P_X6_nothingBy_L12
        simp (disch := first | assumption | exact FX_setI ‹_› | exact FX_setI (FX_setI ‹_›) | exact FX_setI (FX_setI (FX_setI ‹_›)) | exact FX_setI (FX_setI (FX_setI (FX_setI ‹_›))) | omega) only [gr_0_0, gr_0_1, gr_0_2, gr_0_3, gr_0_4, gr_0_5, gr_0_6, gr_0_7, gr_1_0, gr_1_5, gr_1_7, gr_5_3, gr_5_9, gr_8_3, gr_8_9, gr_11_3, gr_11_9, gr_14_0, gr_14_1, gr_14_2, gr_18_0, gr_18_1, gr_18_2, gr_24_0, gr_24_1, gr_24_2, gr_24_3, gr_24_5, gr_24_6, gr_24_10, gr_24_11, gr_24_12, gr_24_15, al_2, al_3, al_4, al_7, al_10, al_13, al_15, al_16, al_17, al_19, al_20, al_21, al_22, al_23, al_25, al_26, al_27, al_28, al_29, al_30, al_31, al_32, al_33, al_34, as_2, as_3, as_4, as_7, as_10, as_13, as_15, as_16, as_17, as_19, as_20, as_21, as_22, as_23, as_25, as_26, as_27, as_28, as_29, as_30, as_31, as_32, as_33, as_34, gi_0, gi_1, gi_5, gi_8, gi_11, gi_14, gi_18, gi_24, pi_0, pi_1, pi_5, pi_8, pi_11, pi_14, pi_18, pi_24, rc_0, rc_1, rc_5, rc_8, rc_11, rc_14, rc_18, rc_24, ln_2, ln_3, ln_4, ln_7, ln_10, ln_13, ln_15, ln_16, ln_17, ln_19, ln_20, ln_21, ln_22, ln_23, ln_25, ln_26, ln_27, ln_28, ln_29, ln_30, ln_31, ln_32, ln_33, ln_34, ln_6, ln_9, ln_12, ci_some, cv_some, lt_eq, nn_none, nn_some, setI_1, setI_at, setI_R, upd2_at, I_add, I_addn, Int32.neg_neg, I_mul, I_ltI, I_leI, I_eqI, I_nat, if_true, if_false, reduceIte, reduceIteN, I_difn, bz_0, bz_1, nz_I, I_rem, I_div, I_sub, l4095, l32, l63, l0, l1, l2, l3, l4, l5, l6, l7, l8, l9, l10, l11, l12, l16, l24, l28, l31, l40, l48, l57, l64, l68, l78, l79, l99, l255, l2000, l2187, l1000000000, hro, h26]
        simp only [Bool.false_eq_true, if_false, if_true]
        exact r1
      · obtain ⟨h3, r1, r2, r3⟩ := ih (r + 1) n h2 (by omega) (by omega) K2 b3
        refine ⟨h3, ?_, (a2.tr b2).tr r2, r3⟩
        rw [cnt_succ, hnb, hi] at r1
        simp only [Bool.true_and, decide_eq_true_eq] at r1
        rw [hi] at h26
        clear ih K2
        unfold P_X6_nothingBy_L12
        simp (disch := first | assumption | exact FX_setI ‹_› | exact FX_setI (FX_setI ‹_›) | exact FX_setI (FX_setI (FX_setI ‹_›)) | exact FX_setI (FX_setI (FX_setI (FX_setI ‹_›))) | omega) only [gr_0_0, gr_0_1, gr_0_2, gr_0_3, gr_0_4, gr_0_5, gr_0_6, gr_0_7, gr_1_0, gr_1_5, gr_1_7, gr_5_3, gr_5_9, gr_8_3, gr_8_9, gr_11_3, gr_11_9, gr_14_0, gr_14_1, gr_14_2, gr_18_0, gr_18_1, gr_18_2, gr_24_0, gr_24_1, gr_24_2, gr_24_3, gr_24_5, gr_24_6, gr_24_10, gr_24_11, gr_24_12, gr_24_15, al_2, al_3, al_4, al_7, al_10, al_13, al_15, al_16, al_17, al_19, al_20, al_21, al_22, al_23, al_25, al_26, al_27, al_28, al_29, al_30, al_31, al_32, al_33, al_34, as_2, as_3, as_4, as_7, as_10, as_13, as_15, as_16, as_17, as_19, as_20, as_21, as_22, as_23, as_25, as_26, as_27, as_28, as_29, as_30, as_31, as_32, as_33, as_34, gi_0, gi_1, gi_5, gi_8, gi_11, gi_14, gi_18, gi_24, pi_0, pi_1, pi_5, pi_8, pi_11, pi_14, pi_18, pi_24, rc_0, rc_1, rc_5, rc_8, rc_11, rc_14, rc_18, rc_24, ln_2, ln_3, ln_4, ln_7, ln_10, ln_13, ln_15, ln_16, ln_17, ln_19, ln_20, ln_21, ln_22, ln_23, ln_25, ln_26, ln_27, ln_28, ln_29, ln_30, ln_31, ln_32, ln_33, ln_34, ln_6, ln_9, ln_12, ci_some, cv_some, lt_eq, nn_none, nn_some, setI_1, setI_at, setI_R, upd2_at, I_add, I_addn, Int32.neg_neg, I_mul, I_ltI, I_leI, I_eqI, I_nat, if_true, if_false, reduceIte, reduceIteN, I_difn, bz_0, bz_1, nz_I, I_rem, I_div, I_sub, l4095, l32, l63, l0, l1, l2, l3, l4, l5, l6, l7, l8, l9, l10, l11, l12, l16, l24, l28, l31, l40, l48, l57, l64, l68, l78, l79, l99, l255, l2000, l2187, l1000000000, hro, h26, a1, hst, b1]
        try simp only [if_true]
        try rw [if_neg (show ¬ I 1 = I 0 by decide)]
        by_cases hz : hr (σ 1) (wy σ zf (dgt (σ 1) r) (σ 2)) 0 (σ 0) = 0
        · rw [if_pos hz] at r1 ⊢
          exact r1
        · rw [if_neg hz] at r1 ⊢
          exact r1
theorem m_nothingBy {σ : Nat → Nat} {h : Hp} (W : WF σ) (M : MS h σ) {S : Nat} (hS : S < 128) : ∃ h', P_X6_nothingBy 24 (I S) h = some (I (cnt (nbp σ S) (σ 1 ^ σ 2)), h') ∧ FxA [26, 33] h h' ∧ MS h' σ := by
  have hN := W.rows.1
  obtain ⟨h1, a1, a2, a3, a4⟩ := m_keeps (MSc M)
  obtain ⟨h2, b1, b2, b3⟩ := m_zeroes a4
  have K2 : KS h2 (cur σ) := fun i hi => by rw [b2.2.2 33 (by decide)]; exact a3 i hi
  obtain ⟨h3, r1, r2, r3⟩ := m_nothingBy_L12 (g := cur σ) W hS (σ 1 ^ σ 2) 0 FU h2 (by omega) (by have := FU_eq; omega) K2 b3
  refine ⟨h3, ?_, ((a2.up (by simp)).tr (b2.up (by simp))).tr (r2.up (by simp)), MS_uncur r3⟩
  have F := M.1
  have F1 := a4.1
  unfold P_X6_nothingBy
  simp (disch := first | assumption | exact FX_setI ‹_› | exact FX_setI (FX_setI ‹_›) | exact FX_setI (FX_setI (FX_setI ‹_›)) | exact FX_setI (FX_setI (FX_setI (FX_setI ‹_›))) | omega) only [gr_0_0, gr_0_1, gr_0_2, gr_0_3, gr_0_4, gr_0_5, gr_0_6, gr_0_7, gr_1_0, gr_1_5, gr_1_7, gr_5_3, gr_5_9, gr_8_3, gr_8_9, gr_11_3, gr_11_9, gr_14_0, gr_14_1, gr_14_2, gr_18_0, gr_18_1, gr_18_2, gr_24_0, gr_24_1, gr_24_2, gr_24_3, gr_24_5, gr_24_6, gr_24_10, gr_24_11, gr_24_12, gr_24_15, al_2, al_3, al_4, al_7, al_10, al_13, al_15, al_16, al_17, al_19, al_20, al_21, al_22, al_23, al_25, al_26, al_27, al_28, al_29, al_30, al_31, al_32, al_33, al_34, as_2, as_3, as_4, as_7, as_10, as_13, as_15, as_16, as_17, as_19, as_20, as_21, as_22, as_23, as_25, as_26, as_27, as_28, as_29, as_30, as_31, as_32, as_33, as_34, gi_0, gi_1, gi_5, gi_8, gi_11, gi_14, gi_18, gi_24, pi_0, pi_1, pi_5, pi_8, pi_11, pi_14, pi_18, pi_24, rc_0, rc_1, rc_5, rc_8, rc_11, rc_14, rc_18, rc_24, ln_2, ln_3, ln_4, ln_7, ln_10, ln_13, ln_15, ln_16, ln_17, ln_19, ln_20, ln_21, ln_22, ln_23, ln_25, ln_26, ln_27, ln_28, ln_29, ln_30, ln_31, ln_32, ln_33, ln_34, ln_6, ln_9, ln_12, ci_some, cv_some, lt_eq, nn_none, nn_some, setI_1, setI_at, setI_R, upd2_at, I_add, I_addn, Int32.neg_neg, I_mul, I_ltI, I_leI, I_eqI, I_nat, if_true, if_false, reduceIte, reduceIteN, I_difn, bz_0, bz_1, nz_I, I_rem, I_div, I_sub, l4095, l32, l63, l0, l1, l2, l3, l4, l5, l6, l7, l8, l9, l10, l11, l12, l16, l24, l28, l31, l40, l48, l57, l64, l68, l78, l79, l99, l255, l2000, l2187, l1000000000, a1, b1]
  exact r1
theorem ins_all {σ dg : Nat → Nat} : ∀ P, P ≤ σ 2 → ins (2 ^ σ 2 - 1) dg P = true
  | 0, _ => rfl
  | P + 1, h => by
    rw [ins_succ, ins_all P (by omega), Nat.testBit_two_pow_sub_one]
    have : P < σ 2 := by omega
    simp [this]
theorem two7 {σ : Nat → Nat} (W : WF σ) : 2 ^ σ 2 - 1 < 128 := by
  have h1 : 2 ^ σ 2 ≤ 2 ^ 7 := Nat.pow_le_pow_right (by decide) W.2.2.1
  have h2 : (2 : Nat) ^ 7 = 128 := by decide
  have := cpos (c := 2) (by decide) (σ 2)
  omega
theorem m_nothing {σ : Nat → Nat} {h : Hp} (W : WF σ) (M : MS h σ) : ∃ h', P_X6_nothing 24 h = some (I (cnt (nbp σ (2 ^ σ 2 - 1)) (σ 1 ^ σ 2)), h') ∧ FxA [26, 33] h h' ∧ MS h' σ := by
  obtain ⟨h1, e1, e2, e3⟩ := m_nothingBy W M (two7 W)
  refine ⟨h1, ?_, e2, e3⟩
  have ha := m_allPeople W (MSc M)
  have F := M.1
  unfold P_X6_nothing
  simp (disch := first | assumption | exact FX_setI ‹_› | exact FX_setI (FX_setI ‹_›) | exact FX_setI (FX_setI (FX_setI ‹_›)) | exact FX_setI (FX_setI (FX_setI (FX_setI ‹_›))) | omega) only [gr_0_0, gr_0_1, gr_0_2, gr_0_3, gr_0_4, gr_0_5, gr_0_6, gr_0_7, gr_1_0, gr_1_5, gr_1_7, gr_5_3, gr_5_9, gr_8_3, gr_8_9, gr_11_3, gr_11_9, gr_14_0, gr_14_1, gr_14_2, gr_18_0, gr_18_1, gr_18_2, gr_24_0, gr_24_1, gr_24_2, gr_24_3, gr_24_5, gr_24_6, gr_24_10, gr_24_11, gr_24_12, gr_24_15, al_2, al_3, al_4, al_7, al_10, al_13, al_15, al_16, al_17, al_19, al_20, al_21, al_22, al_23, al_25, al_26, al_27, al_28, al_29, al_30, al_31, al_32, al_33, al_34, as_2, as_3, as_4, as_7, as_10, as_13, as_15, as_16, as_17, as_19, as_20, as_21, as_22, as_23, as_25, as_26, as_27, as_28, as_29, as_30, as_31, as_32, as_33, as_34, gi_0, gi_1, gi_5, gi_8, gi_11, gi_14, gi_18, gi_24, pi_0, pi_1, pi_5, pi_8, pi_11, pi_14, pi_18, pi_24, rc_0, rc_1, rc_5, rc_8, rc_11, rc_14, rc_18, rc_24, ln_2, ln_3, ln_4, ln_7, ln_10, ln_13, ln_15, ln_16, ln_17, ln_19, ln_20, ln_21, ln_22, ln_23, ln_25, ln_26, ln_27, ln_28, ln_29, ln_30, ln_31, ln_32, ln_33, ln_34, ln_6, ln_9, ln_12, ci_some, cv_some, lt_eq, nn_none, nn_some, setI_1, setI_at, setI_R, upd2_at, I_add, I_addn, Int32.neg_neg, I_mul, I_ltI, I_leI, I_eqI, I_nat, if_true, if_false, reduceIte, reduceIteN, I_difn, bz_0, bz_1, nz_I, I_rem, I_div, I_sub, l4095, l32, l63, l0, l1, l2, l3, l4, l5, l6, l7, l8, l9, l10, l11, l12, l16, l24, l28, l31, l40, l48, l57, l64, l68, l78, l79, l99, l255, l2000, l2187, l1000000000, ha, e1]
/-- nothing changed, as the class counts it -/
theorem wy_beyond {σ f dg : Nat → Nat} (W : WF σ) {i : Nat} (hi : σ 0 ≤ i) (hf : f i < σ 1) (P : Nat) : wy σ f dg P i = f i := by
  unfold wy
  have hz : ∀ P, sm (fun p => if tb1 σ p i then dg p else 0) P = 0 := by
    intro P
    induction P with
    | zero => rfl
    | succ P ih =>
      rw [sm_succ, ih]
      have : tb1 σ P i = false := by unfold tb1; simp [Nat.not_lt.mpr hi]
      rw [this]
      rfl
  rw [hz, Nat.add_zero, Nat.mod_eq_of_lt hf]
theorem modz {c x s : Nat} (hc : c = 2 ∨ c = 3) (hx : x < c) : (x + s) % c = x ↔ s % c = 0 := by
  rcases hc with rfl | rfl <;> constructor <;> intro h <;> omega
theorem wy_same {σ f dg : Nat → Nat} (W : WF σ) {i P : Nat} (hf : f i < σ 1) : wy σ f dg P i = f i ↔ wy σ zf dg P i = 0 := by
  unfold wy zf
  rw [Nat.zero_add]
  exact modz W.2.1 hf
theorem hr_zero {c : Nat} {f : Nat → Nat} (n : Nat) (hf : ∀ i, i < n → f i < c) : hr c f 0 n = 0 ↔ ∀ i, i < n → f i = 0 := by
  have hz : ∀ k j, hr c zf j k = 0 := by
    intro k
    induction k with
    | zero => intro j; rfl
    | succ k ih => intro j; show 0 + c * hr c zf (j + 1) k = 0; rw [ih]; simp
  constructor
  · intro h i hi
    exact hr_inj (c := c) (f := f) (g := zf) n 0 (fun i _ hi => ⟨hf i (by omega), by have := hf i (by omega); unfold zf; omega⟩) (by rw [h, hz]) i (Nat.zero_le _) (by omega)
  · intro h
    rw [hr_congr (g := zf) n 0 (fun i _ hi => h i (by omega)), hz]
theorem nothing_eq {σ : Nat → Nat} (W : WF σ) : cnt (fun row => decide (enc (cw σ (cur σ) row) = enc (cur σ))) (σ 1 ^ σ 2) = cnt (nbp σ (2 ^ σ 2 - 1)) (σ 1 ^ σ 2) := by
  have hcol := W.col
  rw [← cnt_rv (by omega) (σ 2) (nbp σ (2 ^ σ 2 - 1))]
  refine cnt_congr _ (fun r hr0 => ?_)
  unfold nbp
  rw [ins_all _ (Nat.le_refl _), Bool.true_and]
  apply decide_eq_decide.mpr
  rw [enc_congr (cw_rv (f := cur σ) W hr0), hr_zero (f := mw σ zf (rv (σ 1) (σ 2) r)) _ (fun i _ => wy_lt W zf _ _ i)]
  constructor
  · intro h i hi
    have h1 := enc_inj (fun i _ => by have := wy_lt W (cur σ) (dgt (σ 1) (rv (σ 1) (σ 2) r)) (σ 2) i; unfold mw; omega) (fun i hi => by have := W.cur i hi; omega) h i (by have := W.1; omega)
    exact (wy_same W (W.cur i (by have := W.1; omega))).mp h1
  · intro h
    apply enc_congr
    intro i hi
    by_cases hin : i < σ 0
    · exact (wy_same W (W.cur i hi)).mpr (h i hin)
    · exact wy_beyond W (by omega) (W.cur i hi) _
theorem c_nothing {σ : Nat → Nat} {h : Hp} (W : WF σ) (F : FX h) (C : CO h 5 σ) : ∃ h', P_X5_nothing 0 h = some (I (cnt (fun row => decide (enc (cw σ (cur σ) row) = enc (cur σ))) (σ 1 ^ σ 2)), h') ∧ FxA [14, 15, 16] h h' := by
  obtain ⟨h1, e1, e2, e3⟩ := c_lead W F C W.cur
  obtain ⟨F1, C1⟩ := FxA3 e2 (by simp) F C
  refine ⟨h1, ?_, e2⟩
  have k7' : h.2.1 5 7 = I (enc (cur σ)) := C.1.2.2.2.2.2.2.1
  have k7'' : h1.2.1 5 7 = I (enc (cur σ)) := C1.1.2.2.2.2.2.2.1
  have hea := c_endingAt (g := cur σ) W F1 e3
  unfold P_X5_nothing
  simp (disch := first | assumption | exact FX_setI ‹_› | exact FX_setI (FX_setI ‹_›) | exact FX_setI (FX_setI (FX_setI ‹_›)) | exact FX_setI (FX_setI (FX_setI (FX_setI ‹_›))) | omega) only [gr_0_0, gr_0_1, gr_0_2, gr_0_3, gr_0_4, gr_0_5, gr_0_6, gr_0_7, gr_1_0, gr_1_5, gr_1_7, gr_5_3, gr_5_9, gr_8_3, gr_8_9, gr_11_3, gr_11_9, gr_14_0, gr_14_1, gr_14_2, gr_18_0, gr_18_1, gr_18_2, gr_24_0, gr_24_1, gr_24_2, gr_24_3, gr_24_5, gr_24_6, gr_24_10, gr_24_11, gr_24_12, gr_24_15, al_2, al_3, al_4, al_7, al_10, al_13, al_15, al_16, al_17, al_19, al_20, al_21, al_22, al_23, al_25, al_26, al_27, al_28, al_29, al_30, al_31, al_32, al_33, al_34, as_2, as_3, as_4, as_7, as_10, as_13, as_15, as_16, as_17, as_19, as_20, as_21, as_22, as_23, as_25, as_26, as_27, as_28, as_29, as_30, as_31, as_32, as_33, as_34, gi_0, gi_1, gi_5, gi_8, gi_11, gi_14, gi_18, gi_24, pi_0, pi_1, pi_5, pi_8, pi_11, pi_14, pi_18, pi_24, rc_0, rc_1, rc_5, rc_8, rc_11, rc_14, rc_18, rc_24, ln_2, ln_3, ln_4, ln_7, ln_10, ln_13, ln_15, ln_16, ln_17, ln_19, ln_20, ln_21, ln_22, ln_23, ln_25, ln_26, ln_27, ln_28, ln_29, ln_30, ln_31, ln_32, ln_33, ln_34, ln_6, ln_9, ln_12, ci_some, cv_some, lt_eq, nn_none, nn_some, setI_1, setI_at, setI_R, upd2_at, I_add, I_addn, Int32.neg_neg, I_mul, I_ltI, I_leI, I_eqI, I_nat, if_true, if_false, reduceIte, reduceIteN, I_difn, bz_0, bz_1, nz_I, I_rem, I_div, I_sub, l4095, l32, l63, l0, l1, l2, l3, l4, l5, l6, l7, l8, l9, l10, l11, l12, l16, l24, l28, l31, l40, l48, l57, l64, l68, l78, l79, l99, l255, l2000, l2187, l1000000000, k7', e1, k7'', hea]
theorem c_states {σ : Nat → Nat} {h : Hp} (W : WF σ) (F : FX h) (C : CO h 5 σ) : ∃ h', P_X5_states 0 h = some (I (σ 1 ^ σ 2 / cnt (fun row => decide (enc (cw σ (cur σ) row) = enc (cur σ))) (σ 1 ^ σ 2)), h') ∧ FxA [14, 15, 16] h h' := by
  have hN := W.rows.1
  obtain ⟨h1, e1, e2, e3⟩ := c_lead W F C W.cur
  obtain ⟨F1, C1⟩ := FxA3 e2 (by simp) F C
  refine ⟨h1, ?_, e2⟩
  have k7' : h.2.1 5 7 = I (enc (cur σ)) := C.1.2.2.2.2.2.2.1
  have k7'' : h1.2.1 5 7 = I (enc (cur σ)) := C1.1.2.2.2.2.2.2.1
  have hea := c_endingAt (g := cur σ) W F1 e3
  have hle := cnt_le (fun row => decide (enc (cw σ (cur σ) row) = enc (cur σ))) (σ 1 ^ σ 2)
  have a4 := e3.2.2.1
  unfold P_X5_states
  simp (disch := first | assumption | exact FX_setI ‹_› | exact FX_setI (FX_setI ‹_›) | exact FX_setI (FX_setI (FX_setI ‹_›)) | exact FX_setI (FX_setI (FX_setI (FX_setI ‹_›))) | omega) only [gr_0_0, gr_0_1, gr_0_2, gr_0_3, gr_0_4, gr_0_5, gr_0_6, gr_0_7, gr_1_0, gr_1_5, gr_1_7, gr_5_3, gr_5_9, gr_8_3, gr_8_9, gr_11_3, gr_11_9, gr_14_0, gr_14_1, gr_14_2, gr_18_0, gr_18_1, gr_18_2, gr_24_0, gr_24_1, gr_24_2, gr_24_3, gr_24_5, gr_24_6, gr_24_10, gr_24_11, gr_24_12, gr_24_15, al_2, al_3, al_4, al_7, al_10, al_13, al_15, al_16, al_17, al_19, al_20, al_21, al_22, al_23, al_25, al_26, al_27, al_28, al_29, al_30, al_31, al_32, al_33, al_34, as_2, as_3, as_4, as_7, as_10, as_13, as_15, as_16, as_17, as_19, as_20, as_21, as_22, as_23, as_25, as_26, as_27, as_28, as_29, as_30, as_31, as_32, as_33, as_34, gi_0, gi_1, gi_5, gi_8, gi_11, gi_14, gi_18, gi_24, pi_0, pi_1, pi_5, pi_8, pi_11, pi_14, pi_18, pi_24, rc_0, rc_1, rc_5, rc_8, rc_11, rc_14, rc_18, rc_24, ln_2, ln_3, ln_4, ln_7, ln_10, ln_13, ln_15, ln_16, ln_17, ln_19, ln_20, ln_21, ln_22, ln_23, ln_25, ln_26, ln_27, ln_28, ln_29, ln_30, ln_31, ln_32, ln_33, ln_34, ln_6, ln_9, ln_12, ci_some, cv_some, lt_eq, nn_none, nn_some, setI_1, setI_at, setI_R, upd2_at, I_add, I_addn, Int32.neg_neg, I_mul, I_ltI, I_leI, I_eqI, I_nat, if_true, if_false, reduceIte, reduceIteN, I_difn, bz_0, bz_1, nz_I, I_rem, I_div, I_sub, l4095, l32, l63, l0, l1, l2, l3, l4, l5, l6, l7, l8, l9, l10, l11, l12, l16, l24, l28, l31, l40, l48, l57, l64, l68, l78, l79, l99, l255, l2000, l2187, l1000000000, k7', e1, k7'', hea, a4, c_quotient]
theorem cnt_pos {f : Nat → Bool} {r : Nat} : ∀ n, r < n → f r = true → 0 < cnt f n
  | 0, h, _ => by omega
  | n + 1, h, hf => by
    rw [cnt_succ]
    by_cases hr : r = n
    · rw [← hr, hf]
      simp
    · have := cnt_pos n (by omega) hf
      omega
theorem nbp0 {σ : Nat → Nat} (W : WF σ) (S : Nat) : nbp σ S 0 = true := by
  have hcol := W.col
  have hd : ∀ p, dgt (σ 1) 0 p = 0 := fun p => by unfold dgt; simp
  have hi : ∀ P, ins S (dgt (σ 1) 0) P = true := by
    intro P
    induction P with
    | zero => rfl
    | succ P ih => rw [ins_succ, ih, hd]; simp
  unfold nbp
  rw [hi, Bool.true_and, decide_eq_true_eq, hr_zero (f := mw σ zf 0) _ (fun i _ => wy_lt W zf _ _ i)]
  intro i hi2
  unfold mw wy zf
  have hz : ∀ P, sm (fun p => if tb1 σ p i then dgt (σ 1) 0 p else 0) P = 0 := by
    intro P
    induction P with
    | zero => rfl
    | succ P ih => rw [sm_succ, ih, hd]; simp
  rw [hz]
  exact Nat.zero_mod _
theorem m_states {σ : Nat → Nat} {h : Hp} (W : WF σ) (M : MS h σ) : ∃ h', P_X6_states 24 h = some (I (σ 1 ^ σ 2 / cnt (nbp σ (2 ^ σ 2 - 1)) (σ 1 ^ σ 2)), h') ∧ FxA [26, 33] h h' ∧ MS h' σ := by
  have hN := W.rows
  obtain ⟨h1, e1, e2, e3⟩ := m_nothingBy W M (two7 W)
  refine ⟨h1, ?_, e2, e3⟩
  have ha := m_allPeople W (MSc M)
  have hro := m_rows W (MSc M)
  have hle := cnt_le (nbp σ (2 ^ σ 2 - 1)) (σ 1 ^ σ 2)
  have hpo := cnt_pos (f := nbp σ (2 ^ σ 2 - 1)) (r := 0) (σ 1 ^ σ 2) (by omega) (nbp0 W _)
  have F := M.1
  unfold P_X6_states
  simp (disch := first | assumption | exact FX_setI ‹_› | exact FX_setI (FX_setI ‹_›) | exact FX_setI (FX_setI (FX_setI ‹_›)) | exact FX_setI (FX_setI (FX_setI (FX_setI ‹_›))) | omega) only [gr_0_0, gr_0_1, gr_0_2, gr_0_3, gr_0_4, gr_0_5, gr_0_6, gr_0_7, gr_1_0, gr_1_5, gr_1_7, gr_5_3, gr_5_9, gr_8_3, gr_8_9, gr_11_3, gr_11_9, gr_14_0, gr_14_1, gr_14_2, gr_18_0, gr_18_1, gr_18_2, gr_24_0, gr_24_1, gr_24_2, gr_24_3, gr_24_5, gr_24_6, gr_24_10, gr_24_11, gr_24_12, gr_24_15, al_2, al_3, al_4, al_7, al_10, al_13, al_15, al_16, al_17, al_19, al_20, al_21, al_22, al_23, al_25, al_26, al_27, al_28, al_29, al_30, al_31, al_32, al_33, al_34, as_2, as_3, as_4, as_7, as_10, as_13, as_15, as_16, as_17, as_19, as_20, as_21, as_22, as_23, as_25, as_26, as_27, as_28, as_29, as_30, as_31, as_32, as_33, as_34, gi_0, gi_1, gi_5, gi_8, gi_11, gi_14, gi_18, gi_24, pi_0, pi_1, pi_5, pi_8, pi_11, pi_14, pi_18, pi_24, rc_0, rc_1, rc_5, rc_8, rc_11, rc_14, rc_18, rc_24, ln_2, ln_3, ln_4, ln_7, ln_10, ln_13, ln_15, ln_16, ln_17, ln_19, ln_20, ln_21, ln_22, ln_23, ln_25, ln_26, ln_27, ln_28, ln_29, ln_30, ln_31, ln_32, ln_33, ln_34, ln_6, ln_9, ln_12, ci_some, cv_some, lt_eq, nn_none, nn_some, setI_1, setI_at, setI_R, upd2_at, I_add, I_addn, Int32.neg_neg, I_mul, I_ltI, I_leI, I_eqI, I_nat, if_true, if_false, reduceIte, reduceIteN, I_difn, bz_0, bz_1, nz_I, I_rem, I_div, I_sub, l4095, l32, l63, l0, l1, l2, l3, l4, l5, l6, l7, l8, l9, l10, l11, l12, l16, l24, l28, l31, l40, l48, l57, l64, l68, l78, l79, l99, l255, l2000, l2187, l1000000000, hro, ha, e1]
