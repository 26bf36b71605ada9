/-! The class's corridor at a place c (goers at c + 1, notes at c + 2) -/
def GO (h : Hp) (σ : Nat → Nat) (p q : Nat) : Prop := q < h.1 ∧ (SH q).1 = 2 ∧ 35 ≤ q ∧ h.2.1 q 0 = I (σ (40 + 4 * p)) ∧ h.2.1 q 1 = I (σ (41 + 4 * p)) ∧ h.2.1 q 2 = I (σ (42 + 4 * p)) ∧ h.2.1 q 3 = I (σ (43 + 4 * p))
def CO (h : Hp) (c : Nat) (σ : Nat → Nat) : Prop :=
  (h.2.1 c 0 = I (σ 0) ∧ h.2.1 c 1 = I (σ 1) ∧ h.2.1 c 2 = I (σ 2) ∧ h.2.1 c 4 = I (stk σ) ∧ h.2.1 c 5 = I (mnd σ) ∧ h.2.1 c 6 = I (enc (fun i => σ (16 + i))) ∧ h.2.1 c 7 = I (enc (fun i => σ (4 + i))) ∧ h.2.1 c 8 = I (σ 78) ∧ h.2.1 c 10 = I (σ 3))
  ∧ (∀ i, i < σ 3 → h.2.1 (c + 2) i = I (σ (68 + i))) ∧ (∀ p, p < σ 2 → ∃ q, h.2.2 (c + 1) p = some q ∧ GO h σ p q) ∧ (∀ p q, p < 7 → h.2.2 (c + 1) p = some q → q < h.1 ∧ (SH q).1 = 2)
def okd (σ : Nat → Nat) (a : Int32) : Prop := ¬ a < I 1 ∧ ¬ I (σ 0) < a
theorem c_hasDoor {h : Hp} {σ : Nat → Nat} (F : FX h) {c : Nat} (hc : c = 5 ∨ c = 8) (h0 : h.2.1 c 0 = I (σ 0)) (a : Int32) : P_X0_hasDoor c a h = some (if a < I 1 then I 0 else if I (σ 0) < a then I 0 else I 1, h) := by
  unfold P_X0_hasDoor
  rcases hc with rfl | rfl
  all_goals
    simp (disch := first | assumption | exact FX_setI ‹_› | exact FX_setI (FX_setI ‹_›) | exact FX_setI (FX_setI (FX_setI ‹_›)) | exact FX_setI (FX_setI (FX_setI (FX_setI ‹_›))) | omega) only [gr_0_0, gr_0_1, gr_0_2, gr_0_3, gr_0_4, gr_0_5, gr_0_6, gr_0_7, gr_1_0, gr_1_5, gr_1_7, gr_5_3, gr_5_9, gr_8_3, gr_8_9, gr_11_3, gr_11_9, gr_14_0, gr_14_1, gr_14_2, gr_18_0, gr_18_1, gr_18_2, gr_24_0, gr_24_1, gr_24_2, gr_24_3, gr_24_5, gr_24_6, gr_24_10, gr_24_11, gr_24_12, gr_24_15, al_2, al_3, al_4, al_7, al_10, al_13, al_15, al_16, al_17, al_19, al_20, al_21, al_22, al_23, al_25, al_26, al_27, al_28, al_29, al_30, al_31, al_32, al_33, al_34, as_2, as_3, as_4, as_7, as_10, as_13, as_15, as_16, as_17, as_19, as_20, as_21, as_22, as_23, as_25, as_26, as_27, as_28, as_29, as_30, as_31, as_32, as_33, as_34, gi_0, gi_1, gi_5, gi_8, gi_11, gi_14, gi_18, gi_24, pi_0, pi_1, pi_5, pi_8, pi_11, pi_14, pi_18, pi_24, rc_0, rc_1, rc_5, rc_8, rc_11, rc_14, rc_18, rc_24, ln_2, ln_3, ln_4, ln_7, ln_10, ln_13, ln_15, ln_16, ln_17, ln_19, ln_20, ln_21, ln_22, ln_23, ln_25, ln_26, ln_27, ln_28, ln_29, ln_30, ln_31, ln_32, ln_33, ln_34, ln_6, ln_9, ln_12, ci_some, cv_some, lt_eq, nn_none, nn_some, setI_1, setI_at, setI_R, upd2_at, I_add, I_addn, Int32.neg_neg, I_mul, I_ltI, I_leI, I_eqI, I_nat, if_true, if_false, reduceIte, reduceIteN, I_difn, bz_0, bz_1, nz_I, I_rem, I_div, I_sub, l4095, l32, l63, l0, l1, l2, l3, l4, l5, l6, l7, l8, l9, l10, l11, l12, l16, l24, l28, l31, l40, l48, l57, l64, l68, l78, l79, l99, l255, l2000, l2187, l1000000000, h0]
    split
    · rfl
    · split <;> rfl
theorem c_bitOf {h : Hp} {d : Nat} (h1 : 1 ≤ d) (h2 : d ≤ 12) : P_X5_bitOf (I d) h = some (I (1 <<< (d - 1)), h) := by
  unfold P_X5_bitOf
  simp (disch := first | assumption | exact FX_setI ‹_› | exact FX_setI (FX_setI ‹_›) | exact FX_setI (FX_setI (FX_setI ‹_›)) | exact FX_setI (FX_setI (FX_setI (FX_setI ‹_›))) | omega) only [gr_0_0, gr_0_1, gr_0_2, gr_0_3, gr_0_4, gr_0_5, gr_0_6, gr_0_7, gr_1_0, gr_1_5, gr_1_7, gr_5_3, gr_5_9, gr_8_3, gr_8_9, gr_11_3, gr_11_9, gr_14_0, gr_14_1, gr_14_2, gr_18_0, gr_18_1, gr_18_2, gr_24_0, gr_24_1, gr_24_2, gr_24_3, gr_24_5, gr_24_6, gr_24_10, gr_24_11, gr_24_12, gr_24_15, al_2, al_3, al_4, al_7, al_10, al_13, al_15, al_16, al_17, al_19, al_20, al_21, al_22, al_23, al_25, al_26, al_27, al_28, al_29, al_30, al_31, al_32, al_33, al_34, as_2, as_3, as_4, as_7, as_10, as_13, as_15, as_16, as_17, as_19, as_20, as_21, as_22, as_23, as_25, as_26, as_27, as_28, as_29, as_30, as_31, as_32, as_33, as_34, gi_0, gi_1, gi_5, gi_8, gi_11, gi_14, gi_18, gi_24, pi_0, pi_1, pi_5, pi_8, pi_11, pi_14, pi_18, pi_24, rc_0, rc_1, rc_5, rc_8, rc_11, rc_14, rc_18, rc_24, ln_2, ln_3, ln_4, ln_7, ln_10, ln_13, ln_15, ln_16, ln_17, ln_19, ln_20, ln_21, ln_22, ln_23, ln_25, ln_26, ln_27, ln_28, ln_29, ln_30, ln_31, ln_32, ln_33, ln_34, ln_6, ln_9, ln_12, ci_some, cv_some, lt_eq, nn_none, nn_some, setI_1, setI_at, setI_R, upd2_at, I_add, I_addn, Int32.neg_neg, I_mul, I_ltI, I_leI, I_eqI, I_nat, if_true, if_false, reduceIte, reduceIteN, I_difn, bz_0, bz_1, nz_I, I_rem, I_div, I_sub, l4095, l32, l63, l0, l1, l2, l3, l4, l5, l6, l7, l8, l9, l10, l11, l12, l16, l24, l28, l31, l40, l48, l57, l64, l68, l78, l79, l99, l255, l2000, l2187, l1000000000, I_shl]
theorem c_bitAt {h : Hp} {d w : Nat} (h1 : 1 ≤ d) (h2 : d ≤ 12) (hw : w < 2147483648) : P_X5_bitAt (I d) (I w) h = some (I (if w = 0 then 0 else if w = 1 then 1 <<< (d - 1) else (1 <<< (d - 1)) <<< 12), h) := by
  unfold P_X5_bitAt
  simp (disch := first | assumption | exact FX_setI ‹_› | exact FX_setI (FX_setI ‹_›) | exact FX_setI (FX_setI (FX_setI ‹_›)) | exact FX_setI (FX_setI (FX_setI (FX_setI ‹_›))) | omega) only [gr_0_0, gr_0_1, gr_0_2, gr_0_3, gr_0_4, gr_0_5, gr_0_6, gr_0_7, gr_1_0, gr_1_5, gr_1_7, gr_5_3, gr_5_9, gr_8_3, gr_8_9, gr_11_3, gr_11_9, gr_14_0, gr_14_1, gr_14_2, gr_18_0, gr_18_1, gr_18_2, gr_24_0, gr_24_1, gr_24_2, gr_24_3, gr_24_5, gr_24_6, gr_24_10, gr_24_11, gr_24_12, gr_24_15, al_2, al_3, al_4, al_7, al_10, al_13, al_15, al_16, al_17, al_19, al_20, al_21, al_22, al_23, al_25, al_26, al_27, al_28, al_29, al_30, al_31, al_32, al_33, al_34, as_2, as_3, as_4, as_7, as_10, as_13, as_15, as_16, as_17, as_19, as_20, as_21, as_22, as_23, as_25, as_26, as_27, as_28, as_29, as_30, as_31, as_32, as_33, as_34, gi_0, gi_1, gi_5, gi_8, gi_11, gi_14, gi_18, gi_24, pi_0, pi_1, pi_5, pi_8, pi_11, pi_14, pi_18, pi_24, rc_0, rc_1, rc_5, rc_8, rc_11, rc_14, rc_18, rc_24, ln_2, ln_3, ln_4, ln_7, ln_10, ln_13, ln_15, ln_16, ln_17, ln_19, ln_20, ln_21, ln_22, ln_23, ln_25, ln_26, ln_27, ln_28, ln_29, ln_30, ln_31, ln_32, ln_33, ln_34, ln_6, ln_9, ln_12, ci_some, cv_some, lt_eq, nn_none, nn_some, setI_1, setI_at, setI_R, upd2_at, I_add, I_addn, Int32.neg_neg, I_mul, I_ltI, I_leI, I_eqI, I_nat, if_true, if_false, reduceIte, reduceIteN, I_difn, bz_0, bz_1, nz_I, I_rem, I_div, I_sub, l4095, l32, l63, l0, l1, l2, l3, l4, l5, l6, l7, l8, l9, l10, l11, l12, l16, l24, l28, l31, l40, l48, l57, l64, l68, l78, l79, l99, l255, l2000, l2187, l1000000000, c_bitOf, I_shl]
  split
  · rfl
  · split <;> rfl
theorem bit24 (d : Nat) : (1 <<< d) <<< 12 = 1 <<< (12 + d) := by
  rw [← Nat.shiftLeft_add, Nat.add_comm]
theorem and_lt {a b n : Nat} (h : a < n) : a &&& b < n := Nat.lt_of_le_of_lt Nat.and_le_left h
theorem c_wayOf {h : Hp} {f : Nat → Nat} {d : Nat} (h1 : 1 ≤ d) (h2 : d ≤ 12) (hf : f (d - 1) < 3) : P_X5_wayOf (I (enc f)) (I d) h = some (I (f (d - 1)), h) := by
  have hl := enc_lt f
  have a1 : enc f &&& 1 <<< (d - 1) < 16777216 := and_lt hl
  have a2 : enc f &&& 1 <<< (12 + (d - 1)) < 16777216 := and_lt hl
  have hd : d - 1 < 12 := by omega
  unfold P_X5_wayOf
  rw [show (1 : Int32) = I 1 from rfl, show (2 : Int32) = I 2 from rfl, show (0 : Int32) = I 0 from rfl]
  simp only [c_bitAt h1 h2 (show 1 < 2147483648 by decide), c_bitAt h1 h2 (show 2 < 2147483648 by decide), ci_some, if_neg (show ¬ (1 : Nat) = 0 by decide), if_neg (show ¬ (2 : Nat) = 0 by decide), if_neg (show ¬ (2 : Nat) = 1 by decide), if_true, I_and, bit24]
  simp (disch := omega) only [I_eqI, and_bit, tb_enc1 f hd, tb_enc2 f hd]
  have h3 : f (d - 1) = 0 ∨ f (d - 1) = 1 ∨ f (d - 1) = 2 := by omega
  rcases h3 with h3 | h3 | h3 <;> simp [h3]
theorem stk_lt (σ : Nat → Nat) : stk σ < 4096 := msk_lt _ 12
theorem mnd_lt (σ : Nat → Nat) : mnd σ < 16777216 := msk_lt _ 24
theorem c_isStuck {h : Hp} {σ : Nat → Nat} (F : FX h) (C : CO h 5 σ) {d : Nat} (h1 : 1 ≤ d) (h2 : d ≤ 12) : P_X0_isStuck 5 (I d) h = some (if σ (27 + d) = 1 then I 1 else I 0, h) := by
  obtain ⟨⟨k0, k1, k2, k4, k5, k6, k7, k8, k10⟩, -⟩ := C
  have hl := stk_lt σ
  have a1 : stk σ &&& 1 <<< (d - 1) < 4096 := and_lt hl
  unfold P_X0_isStuck
  simp (disch := first | assumption | exact FX_setI ‹_› | exact FX_setI (FX_setI ‹_›) | exact FX_setI (FX_setI (FX_setI ‹_›)) | exact FX_setI (FX_setI (FX_setI (FX_setI ‹_›))) | omega) only [gr_0_0, gr_0_1, gr_0_2, gr_0_3, gr_0_4, gr_0_5, gr_0_6, gr_0_7, gr_1_0, gr_1_5, gr_1_7, gr_5_3, gr_5_9, gr_8_3, gr_8_9, gr_11_3, gr_11_9, gr_14_0, gr_14_1, gr_14_2, gr_18_0, gr_18_1, gr_18_2, gr_24_0, gr_24_1, gr_24_2, gr_24_3, gr_24_5, gr_24_6, gr_24_10, gr_24_11, gr_24_12, gr_24_15, al_2, al_3, al_4, al_7, al_10, al_13, al_15, al_16, al_17, al_19, al_20, al_21, al_22, al_23, al_25, al_26, al_27, al_28, al_29, al_30, al_31, al_32, al_33, al_34, as_2, as_3, as_4, as_7, as_10, as_13, as_15, as_16, as_17, as_19, as_20, as_21, as_22, as_23, as_25, as_26, as_27, as_28, as_29, as_30, as_31, as_32, as_33, as_34, gi_0, gi_1, gi_5, gi_8, gi_11, gi_14, gi_18, gi_24, pi_0, pi_1, pi_5, pi_8, pi_11, pi_14, pi_18, pi_24, rc_0, rc_1, rc_5, rc_8, rc_11, rc_14, rc_18, rc_24, ln_2, ln_3, ln_4, ln_7, ln_10, ln_13, ln_15, ln_16, ln_17, ln_19, ln_20, ln_21, ln_22, ln_23, ln_25, ln_26, ln_27, ln_28, ln_29, ln_30, ln_31, ln_32, ln_33, ln_34, ln_6, ln_9, ln_12, ci_some, cv_some, lt_eq, nn_none, nn_some, setI_1, setI_at, setI_R, upd2_at, I_add, I_addn, Int32.neg_neg, I_mul, I_ltI, I_leI, I_eqI, I_nat, if_true, if_false, reduceIte, reduceIteN, I_difn, bz_0, bz_1, nz_I, I_rem, I_div, I_sub, l4095, l32, l63, l0, l1, l2, l3, l4, l5, l6, l7, l8, l9, l10, l11, l12, l16, l24, l28, l31, l40, l48, l57, l64, l68, l78, l79, l99, l255, l2000, l2187, l1000000000, k4, c_bitOf, I_and, and_bit]
  have e : 28 + (d - 1) = 27 + d := by omega
  have hd : d - 1 < 12 := by omega
  unfold stk
  rw [tb_msk, e]
  by_cases h3 : σ (27 + d) = 1 <;> simp [h3, hd]
theorem c_wishFor {h : Hp} {σ : Nat → Nat} (F : FX h) (W : WF σ) (C : CO h 5 σ) {d : Nat} (h1 : 1 ≤ d) (h2 : d ≤ 12) : P_X0_wishFor 5 (I d) h = some (I (σ (15 + d)), h) := by
  obtain ⟨⟨k0, k1, k2, k4, k5, k6, k7, k8, k10⟩, -⟩ := C
  have hl := mnd_lt σ
  have a1 : mnd σ &&& 1 <<< (d - 1) < 16777216 := and_lt hl
  have e : 16 + (d - 1) = 15 + d := by omega
  have hd : d - 1 < 12 := by omega
  have hw := W.2.2.2.2.2.1 (d - 1) hd
  have hcol := W.col
  unfold P_X0_wishFor
  simp (disch := first | assumption | exact FX_setI ‹_› | exact FX_setI (FX_setI ‹_›) | exact FX_setI (FX_setI (FX_setI ‹_›)) | exact FX_setI (FX_setI (FX_setI (FX_setI ‹_›))) | omega) only [gr_0_0, gr_0_1, gr_0_2, gr_0_3, gr_0_4, gr_0_5, gr_0_6, gr_0_7, gr_1_0, gr_1_5, gr_1_7, gr_5_3, gr_5_9, gr_8_3, gr_8_9, gr_11_3, gr_11_9, gr_14_0, gr_14_1, gr_14_2, gr_18_0, gr_18_1, gr_18_2, gr_24_0, gr_24_1, gr_24_2, gr_24_3, gr_24_5, gr_24_6, gr_24_10, gr_24_11, gr_24_12, gr_24_15, al_2, al_3, al_4, al_7, al_10, al_13, al_15, al_16, al_17, al_19, al_20, al_21, al_22, al_23, al_25, al_26, al_27, al_28, al_29, al_30, al_31, al_32, al_33, al_34, as_2, as_3, as_4, as_7, as_10, as_13, as_15, as_16, as_17, as_19, as_20, as_21, as_22, as_23, as_25, as_26, as_27, as_28, as_29, as_30, as_31, as_32, as_33, as_34, gi_0, gi_1, gi_5, gi_8, gi_11, gi_14, gi_18, gi_24, pi_0, pi_1, pi_5, pi_8, pi_11, pi_14, pi_18, pi_24, rc_0, rc_1, rc_5, rc_8, rc_11, rc_14, rc_18, rc_24, ln_2, ln_3, ln_4, ln_7, ln_10, ln_13, ln_15, ln_16, ln_17, ln_19, ln_20, ln_21, ln_22, ln_23, ln_25, ln_26, ln_27, ln_28, ln_29, ln_30, ln_31, ln_32, ln_33, ln_34, ln_6, ln_9, ln_12, ci_some, cv_some, lt_eq, nn_none, nn_some, setI_1, setI_at, setI_R, upd2_at, I_add, I_addn, Int32.neg_neg, I_mul, I_ltI, I_leI, I_eqI, I_nat, if_true, if_false, reduceIte, reduceIteN, I_difn, bz_0, bz_1, nz_I, I_rem, I_div, I_sub, l4095, l32, l63, l0, l1, l2, l3, l4, l5, l6, l7, l8, l9, l10, l11, l12, l16, l24, l28, l31, l40, l48, l57, l64, l68, l78, l79, l99, l255, l2000, l2187, l1000000000, k5, k6, c_bitOf, I_and, and_bit]
  have hm : (mnd σ).testBit (d - 1) = !decide (σ (15 + d) = 9) := by
    unfold mnd
    rw [tb_msk]
    have : d - 1 < 24 := by omega
    simp [hd, this, e]
  rw [hm]
  rw [e] at hw
  by_cases h3 : σ (15 + d) = 9
  · simp [h3]
  · have h4 : σ (16 + (d - 1)) < 3 := by rw [e]; omega
    rw [c_wayOf (f := fun i => σ (16 + i)) h1 h2 h4]
    simp [h3, ci_some, e]
/-- are these ways as wished -/
def wsd (σ f : Nat → Nat) : Bool := (List.range 12).all (fun i => decide (σ (16 + i) = 9) || decide (f i = σ (16 + i)))
theorem wsd_iff {σ f : Nat → Nat} : wsd σ f = true ↔ ∀ i, i < 12 → σ (16 + i) = 9 ∨ f i = σ (16 + i) := by
  unfold wsd
  rw [List.all_eq_true]
  constructor
  · intro h i hi
    have := h i (List.mem_range.mpr hi)
    simpa using this
  · intro h i hi
    have := h i (List.mem_range.mp hi)
    simpa using this
theorem enc_wish {σ f : Nat → Nat} (W : WF σ) (hf : ∀ i, i < 12 → f i < 3) : (enc f &&& mnd σ = enc (fun i => σ (16 + i))) = (wsd σ f = true) := by
  have hcol := W.col
  have hw := W.2.2.2.2.2.1
  apply propext
  rw [wsd_iff]
  constructor
  · intro h i hi
    have b1 := congrArg (fun x => x.testBit i) h
    have b2 := congrArg (fun x => x.testBit (12 + i)) h
    simp only [Nat.testBit_and, tb_enc1 _ hi, tb_enc2 _ hi] at b1 b2
    have m1 : (mnd σ).testBit i = !decide (σ (16 + i) = 9) := by
      unfold mnd; rw [tb_msk]; have : i < 24 := by omega
      simp [hi, this]
    have m2 : (mnd σ).testBit (12 + i) = !decide (σ (16 + i) = 9) := by
      unfold mnd; rw [tb_msk]; have : 12 + i < 24 := by omega
      have h3 : ¬ 12 + i < 12 := by omega
      simp [h3, this]
    rw [m1] at b1
    rw [m2] at b2
    by_cases h9 : σ (16 + i) = 9
    · exact Or.inl h9
    · right
      simp only [h9, decide_false, Bool.not_false, Bool.and_true] at b1 b2
      have c1 := decide_eq_decide.mp b1
      have c2 := decide_eq_decide.mp b2
      have := hf i hi
      have := hw i hi
      omega
  · intro h
    apply Nat.eq_of_testBit_eq
    intro j
    rw [Nat.testBit_and]
    by_cases hj : j < 12
    · have m1 : (mnd σ).testBit j = !decide (σ (16 + j) = 9) := by
        unfold mnd; rw [tb_msk]; have : j < 24 := by omega
        simp [hj, this]
      rw [tb_enc1 _ hj, tb_enc1 _ hj, m1]
      rcases h j hj with h9 | h9
      · simp [h9]
      · have := hw j hj
        by_cases h8 : σ (16 + j) = 9
        · simp [h8]
        · simp [h8, h9]
    · by_cases h24 : j < 24
      · obtain ⟨i, rfl⟩ : ∃ i, j = 12 + i := ⟨j - 12, by omega⟩
        have hi : i < 12 := by omega
        have m2 : (mnd σ).testBit (12 + i) = !decide (σ (16 + i) = 9) := by
          unfold mnd; rw [tb_msk]
          have h3 : ¬ 12 + i < 12 := by omega
          simp [h3, h24]
        rw [tb_enc2 _ hi, tb_enc2 _ hi, m2]
        rcases h i hi with h9 | h9
        · simp [h9]
        · by_cases h8 : σ (16 + i) = 9
          · simp [h8]
          · simp [h8, h9]
      · rw [tb_enc, tb_enc]
        simp [h24]
theorem c_isWish {h : Hp} {σ f : Nat → Nat} (F : FX h) (W : WF σ) (C : CO h 5 σ) (hf : ∀ i, i < 12 → f i < 3) : P_X0_isWish 5 (I (enc f)) h = some (if wsd σ f then I 1 else I 0, h) := by
  obtain ⟨⟨k0, k1, k2, k4, k5, k6, k7, k8, k10⟩, -⟩ := C
  have hl := enc_lt f
  have hl2 := enc_lt (fun i => σ (16 + i))
  have a1 : enc f &&& mnd σ < 16777216 := and_lt hl
  unfold P_X0_isWish
  simp (disch := first | assumption | exact FX_setI ‹_› | exact FX_setI (FX_setI ‹_›) | exact FX_setI (FX_setI (FX_setI ‹_›)) | exact FX_setI (FX_setI (FX_setI (FX_setI ‹_›))) | omega) only [gr_0_0, gr_0_1, gr_0_2, gr_0_3, gr_0_4, gr_0_5, gr_0_6, gr_0_7, gr_1_0, gr_1_5, gr_1_7, gr_5_3, gr_5_9, gr_8_3, gr_8_9, gr_11_3, gr_11_9, gr_14_0, gr_14_1, gr_14_2, gr_18_0, gr_18_1, gr_18_2, gr_24_0, gr_24_1, gr_24_2, gr_24_3, gr_24_5, gr_24_6, gr_24_10, gr_24_11, gr_24_12, gr_24_15, al_2, al_3, al_4, al_7, al_10, al_13, al_15, al_16, al_17, al_19, al_20, al_21, al_22, al_23, al_25, al_26, al_27, al_28, al_29, al_30, al_31, al_32, al_33, al_34, as_2, as_3, as_4, as_7, as_10, as_13, as_15, as_16, as_17, as_19, as_20, as_21, as_22, as_23, as_25, as_26, as_27, as_28, as_29, as_30, as_31, as_32, as_33, as_34, gi_0, gi_1, gi_5, gi_8, gi_11, gi_14, gi_18, gi_24, pi_0, pi_1, pi_5, pi_8, pi_11, pi_14, pi_18, pi_24, rc_0, rc_1, rc_5, rc_8, rc_11, rc_14, rc_18, rc_24, ln_2, ln_3, ln_4, ln_7, ln_10, ln_13, ln_15, ln_16, ln_17, ln_19, ln_20, ln_21, ln_22, ln_23, ln_25, ln_26, ln_27, ln_28, ln_29, ln_30, ln_31, ln_32, ln_33, ln_34, ln_6, ln_9, ln_12, ci_some, cv_some, lt_eq, nn_none, nn_some, setI_1, setI_at, setI_R, upd2_at, I_add, I_addn, Int32.neg_neg, I_mul, I_ltI, I_leI, I_eqI, I_nat, if_true, if_false, reduceIte, reduceIteN, I_difn, bz_0, bz_1, nz_I, I_rem, I_div, I_sub, l4095, l32, l63, l0, l1, l2, l3, l4, l5, l6, l7, l8, l9, l10, l11, l12, l16, l24, l28, l31, l40, l48, l57, l64, l68, l78, l79, l99, l255, l2000, l2187, l1000000000, k5, k6, I_and, enc_wish W hf]
  split <;> rfl
/-- Horner: k digits from j on -/
def hr (c : Nat) (f : Nat → Nat) (j : Nat) : Nat → Nat
  | 0 => 0
  | k + 1 => f j + c * hr c f (j + 1) k
theorem hr_lt {c : Nat} {f : Nat → Nat} : ∀ (k j : Nat), (∀ i, j ≤ i → i < j + k → f i < c) → hr c f j k < c ^ k := by
  intro k
  induction k with
  | zero => intro j _; simp [hr]
  | succ k ih =>
    intro j hf
    have h1 := ih (j + 1) (fun i a b => hf i (by omega) (by omega))
    have h2 := hf j (Nat.le_refl _) (by omega)
    unfold hr
    rw [Nat.pow_succ]
    have h3 : c * hr c f (j + 1) k + c ≤ c * c ^ k := by
      have h4 : c * (hr c f (j + 1) k + 1) ≤ c * c ^ k := Nat.mul_le_mul_left c h1
      rw [Nat.mul_add] at h4
      omega
    rw [Nat.mul_comm (c ^ k)]
    omega
theorem hr_inj {c : Nat} {f g : Nat → Nat} : ∀ (k j : Nat), (∀ i, j ≤ i → i < j + k → f i < c ∧ g i < c) → hr c f j k = hr c g j k → ∀ i, j ≤ i → i < j + k → f i = g i := by
  intro k
  induction k with
  | zero => intro j _ _ i h1 h2; omega
  | succ k ih =>
    intro j hf h i h1 h2
    unfold hr at h
    have hj := hf j (Nat.le_refl _) (by omega)
    have e1 : (f j + c * hr c f (j + 1) k) % c = f j := by rw [Nat.add_mul_mod_self_left, Nat.mod_eq_of_lt hj.1]
    have e2 : (g j + c * hr c g (j + 1) k) % c = g j := by rw [Nat.add_mul_mod_self_left, Nat.mod_eq_of_lt hj.2]
    have e3 : f j = g j := by rw [← e1, ← e2, h]
    by_cases hij : i = j
    · rw [hij]; exact e3
    · have hc : 0 < c := by omega
      have e4 : hr c f (j + 1) k = hr c g (j + 1) k := by
        rw [e3] at h
        exact Nat.eq_of_mul_eq_mul_left hc (Nat.add_left_cancel h)
      exact ih (j + 1) (fun i a b => hf i (by omega) (by omega)) e4 i (by omega) (by omega)
theorem hr_congr {c : Nat} {f g : Nat → Nat} : ∀ (k j : Nat), (∀ i, j ≤ i → i < j + k → f i = g i) → hr c f j k = hr c g j k := by
  intro k
  induction k with
  | zero => intro j _; rfl
  | succ k ih =>
    intro j hf
    unfold hr
    rw [hf j (Nat.le_refl _) (by omega), ih (j + 1) (fun i a b => hf i (by omega) (by omega))]
theorem pow_bd {c k : Nat} (hc : c ≤ 3) (hk : k ≤ 12) : c ^ k ≤ 531441 := by
  have h1 : c ^ k ≤ 3 ^ k := Nat.pow_le_pow_left hc k
  have h2 : 3 ^ k ≤ 3 ^ 12 := Nat.pow_le_pow_right (by decide) hk
  have h3 : (3 : Nat) ^ 12 = 531441 := by decide
  omega
theorem c_stateOf_L {h : Hp} {σ f : Nat → Nat} (F : FX h) (W : WF σ) (k1 : h.2.1 5 1 = I (σ 1)) (hf : ∀ i, i < 12 → f i < σ 1) : ∀ (d k n : Nat), d + k = σ 0 → d < n → P_X0_stateOf_L7 n 5 (I (enc f)) (I (hr (σ 1) f d k)) (I d) h = some (I (hr (σ 1) f 0 (σ 0)), h) := by
  have hcol := W.col
  have hn := W.1
  intro d
  induction d with
  | zero =>
    intro k n hk hn2
    cases n with
    | zero => omega
    | succ n =>
      unfold P_X0_stateOf_L7
      simp (disch := first | assumption | exact FX_setI ‹_› | exact FX_setI (FX_setI ‹_›) | exact FX_setI (FX_setI (FX_setI ‹_›)) | exact FX_setI (FX_setI (FX_setI (FX_setI ‹_›))) | omega) only [gr_0_0, gr_0_1, gr_0_2, gr_0_3, gr_0_4, gr_0_5, gr_0_6, gr_0_7, gr_1_0, gr_1_5, gr_1_7, gr_5_3, gr_5_9, gr_8_3, gr_8_9, gr_11_3, gr_11_9, gr_14_0, gr_14_1, gr_14_2, gr_18_0, gr_18_1, gr_18_2, gr_24_0, gr_24_1, gr_24_2, gr_24_3, gr_24_5, gr_24_6, gr_24_10, gr_24_11, gr_24_12, gr_24_15, al_2, al_3, al_4, al_7, al_10, al_13, al_15, al_16, al_17, al_19, al_20, al_21, al_22, al_23, al_25, al_26, al_27, al_28, al_29, al_30, al_31, al_32, al_33, al_34, as_2, as_3, as_4, as_7, as_10, as_13, as_15, as_16, as_17, as_19, as_20, as_21, as_22, as_23, as_25, as_26, as_27, as_28, as_29, as_30, as_31, as_32, as_33, as_34, gi_0, gi_1, gi_5, gi_8, gi_11, gi_14, gi_18, gi_24, pi_0, pi_1, pi_5, pi_8, pi_11, pi_14, pi_18, pi_24, rc_0, rc_1, rc_5, rc_8, rc_11, rc_14, rc_18, rc_24, ln_2, ln_3, ln_4, ln_7, ln_10, ln_13, ln_15, ln_16, ln_17, ln_19, ln_20, ln_21, ln_22, ln_23, ln_25, ln_26, ln_27, ln_28, ln_29, ln_30, ln_31, ln_32, ln_33, ln_34, ln_6, ln_9, ln_12, ci_some, cv_some, lt_eq, nn_none, nn_some, setI_1, setI_at, setI_R, upd2_at, I_add, I_addn, Int32.neg_neg, I_mul, I_ltI, I_leI, I_eqI, I_nat, if_true, if_false, reduceIte, reduceIteN, I_difn, bz_0, bz_1, nz_I, I_rem, I_div, I_sub, l4095, l32, l63, l0, l1, l2, l3, l4, l5, l6, l7, l8, l9, l10, l11, l12, l16, l24, l28, l31, l40, l48, l57, l64, l68, l78, l79, l99, l255, l2000, l2187, l1000000000]
      rw [← hk, Nat.zero_add]
  | succ d ih =>
    intro k n hk hn2
    cases n with
    | zero => omega
    | succ n =>
      have hb := hr_lt (c := σ 1) (f := f) k (d + 1) (fun i a b => hf i (by omega))
      have hp := pow_bd (c := σ 1) (k := k) (by omega) (by omega)
      have hd : d < 12 := by omega
      have hfd := hf d hd
      unfold P_X0_stateOf_L7
      simp (disch := first | assumption | exact FX_setI ‹_› | exact FX_setI (FX_setI ‹_›) | exact FX_setI (FX_setI (FX_setI ‹_›)) | exact FX_setI (FX_setI (FX_setI (FX_setI ‹_›))) | omega) only [gr_0_0, gr_0_1, gr_0_2, gr_0_3, gr_0_4, gr_0_5, gr_0_6, gr_0_7, gr_1_0, gr_1_5, gr_1_7, gr_5_3, gr_5_9, gr_8_3, gr_8_9, gr_11_3, gr_11_9, gr_14_0, gr_14_1, gr_14_2, gr_18_0, gr_18_1, gr_18_2, gr_24_0, gr_24_1, gr_24_2, gr_24_3, gr_24_5, gr_24_6, gr_24_10, gr_24_11, gr_24_12, gr_24_15, al_2, al_3, al_4, al_7, al_10, al_13, al_15, al_16, al_17, al_19, al_20, al_21, al_22, al_23, al_25, al_26, al_27, al_28, al_29, al_30, al_31, al_32, al_33, al_34, as_2, as_3, as_4, as_7, as_10, as_13, as_15, as_16, as_17, as_19, as_20, as_21, as_22, as_23, as_25, as_26, as_27, as_28, as_29, as_30, as_31, as_32, as_33, as_34, gi_0, gi_1, gi_5, gi_8, gi_11, gi_14, gi_18, gi_24, pi_0, pi_1, pi_5, pi_8, pi_11, pi_14, pi_18, pi_24, rc_0, rc_1, rc_5, rc_8, rc_11, rc_14, rc_18, rc_24, ln_2, ln_3, ln_4, ln_7, ln_10, ln_13, ln_15, ln_16, ln_17, ln_19, ln_20, ln_21, ln_22, ln_23, ln_25, ln_26, ln_27, ln_28, ln_29, ln_30, ln_31, ln_32, ln_33, ln_34, ln_6, ln_9, ln_12, ci_some, cv_some, lt_eq, nn_none, nn_some, setI_1, setI_at, setI_R, upd2_at, I_add, I_addn, Int32.neg_neg, I_mul, I_ltI, I_leI, I_eqI, I_nat, if_true, if_false, reduceIte, reduceIteN, I_difn, bz_0, bz_1, nz_I, I_rem, I_div, I_sub, l4095, l32, l63, l0, l1, l2, l3, l4, l5, l6, l7, l8, l9, l10, l11, l12, l16, l24, l28, l31, l40, l48, l57, l64, l68, l78, l79, l99, l255, l2000, l2187, l1000000000, k1, c_wayOf (f := f) (d := d + 1) (by omega) (by omega) (by simpa using (by omega : f d < 3))]
      rw [Nat.add_sub_cancel d 1]
      have e2 : hr (σ 1) f (d + 1) k * σ 1 + f d = hr (σ 1) f d (k + 1) := by
        show _ = f d + σ 1 * hr (σ 1) f (d + 1) k
        rw [Nat.mul_comm, Nat.add_comm]
      rw [e2]
      have h9 : d + (k + 1) = σ 0 := by omega
      have h10 : d < n := by omega
      have h11 := ih (k + 1) n h9 h10
      exact h11
theorem c_stateOf {h : Hp} {σ f : Nat → Nat} (F : FX h) (W : WF σ) (C : CO h 5 σ) (hf : ∀ i, i < 12 → f i < σ 1) : P_X0_stateOf 5 (I (enc f)) h = some (I (hr (σ 1) f 0 (σ 0)), h) := by
  obtain ⟨⟨k0, k1, k2, k4, k5, k6, k7, k8, k10⟩, -⟩ := C
  have hn := W.1
  unfold P_X0_stateOf
  simp (disch := first | assumption | exact FX_setI ‹_› | exact FX_setI (FX_setI ‹_›) | exact FX_setI (FX_setI (FX_setI ‹_›)) | exact FX_setI (FX_setI (FX_setI (FX_setI ‹_›))) | omega) only [gr_0_0, gr_0_1, gr_0_2, gr_0_3, gr_0_4, gr_0_5, gr_0_6, gr_0_7, gr_1_0, gr_1_5, gr_1_7, gr_5_3, gr_5_9, gr_8_3, gr_8_9, gr_11_3, gr_11_9, gr_14_0, gr_14_1, gr_14_2, gr_18_0, gr_18_1, gr_18_2, gr_24_0, gr_24_1, gr_24_2, gr_24_3, gr_24_5, gr_24_6, gr_24_10, gr_24_11, gr_24_12, gr_24_15, al_2, al_3, al_4, al_7, al_10, al_13, al_15, al_16, al_17, al_19, al_20, al_21, al_22, al_23, al_25, al_26, al_27, al_28, al_29, al_30, al_31, al_32, al_33, al_34, as_2, as_3, as_4, as_7, as_10, as_13, as_15, as_16, as_17, as_19, as_20, as_21, as_22, as_23, as_25, as_26, as_27, as_28, as_29, as_30, as_31, as_32, as_33, as_34, gi_0, gi_1, gi_5, gi_8, gi_11, gi_14, gi_18, gi_24, pi_0, pi_1, pi_5, pi_8, pi_11, pi_14, pi_18, pi_24, rc_0, rc_1, rc_5, rc_8, rc_11, rc_14, rc_18, rc_24, ln_2, ln_3, ln_4, ln_7, ln_10, ln_13, ln_15, ln_16, ln_17, ln_19, ln_20, ln_21, ln_22, ln_23, ln_25, ln_26, ln_27, ln_28, ln_29, ln_30, ln_31, ln_32, ln_33, ln_34, ln_6, ln_9, ln_12, ci_some, cv_some, lt_eq, nn_none, nn_some, setI_1, setI_at, setI_R, upd2_at, I_add, I_addn, Int32.neg_neg, I_mul, I_ltI, I_leI, I_eqI, I_nat, if_true, if_false, reduceIte, reduceIteN, I_difn, bz_0, bz_1, nz_I, I_rem, I_div, I_sub, l4095, l32, l63, l0, l1, l2, l3, l4, l5, l6, l7, l8, l9, l10, l11, l12, l16, l24, l28, l31, l40, l48, l57, l64, l68, l78, l79, l99, l255, l2000, l2187, l1000000000, k0]
  exact c_stateOf_L F W k1 hf (σ 0) 0 FU (by omega) (by have := FU_eq; omega)
