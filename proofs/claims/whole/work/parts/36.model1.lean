/-- the model's state: its array s, told in naturals -/
def MS (h : Hp) (σ : Nat → Nat) : Prop := FX h ∧ ∀ j, j < 79 → h.2.1 26 j = I (σ j)
/-- the same state with other ways -/
def wset (σ f : Nat → Nat) : Nat → Nat := fun j => if 4 ≤ j ∧ j < 16 then f (j - 4) else σ j
theorem wset_lo {σ f : Nat → Nat} {j : Nat} (h : j < 4) : wset σ f j = σ j := by unfold wset; rw [if_neg (by omega)]
theorem wset_hi {σ f : Nat → Nat} {j : Nat} (h : 16 ≤ j) : wset σ f j = σ j := by unfold wset; rw [if_neg (by omega)]
theorem wset_w {σ f : Nat → Nat} {i : Nat} (h : i < 12) : wset σ f (4 + i) = f i := by unfold wset; rw [if_pos (by omega), Nat.add_sub_cancel_left]
theorem MS_congr {h : Hp} {σ τ : Nat → Nat} (M : MS h σ) (he : ∀ j, j < 79 → σ j = τ j) : MS h τ := ⟨M.1, fun j hj => by rw [← he j hj]; exact M.2 j hj⟩
theorem wset_congr {σ f g : Nat → Nat} (he : ∀ i, i < 12 → f i = g i) (j : Nat) : wset σ f j = wset σ g j := by
  unfold wset
  split
  · exact he _ (by omega)
  · rfl
theorem wset_self {σ : Nat → Nat} (j : Nat) : wset σ (fun i => σ (4 + i)) j = σ j := by
  unfold wset
  split
  · exact congrArg σ (by omega)
  · rfl
/-- only these places changed -/
def FxA (A : List Nat) (h h' : Hp) : Prop := h'.1 = h.1 ∧ h'.2.2 = h.2.2 ∧ ∀ q, q ∉ A → h'.2.1 q = h.2.1 q
theorem FxA.rf {A : List Nat} {h : Hp} : FxA A h h := ⟨rfl, rfl, fun _ _ => rfl⟩
theorem FxA.tr {A : List Nat} {h h' h'' : Hp} (a : FxA A h h') (b : FxA A h' h'') : FxA A h h'' := ⟨b.1.trans a.1, b.2.1.trans a.2.1, fun q hq => (b.2.2 q hq).trans (a.2.2 q hq)⟩
theorem FxA.up {A B : List Nat} {h h' : Hp} (a : FxA A h h') (hs : ∀ q, q ∈ A → q ∈ B) : FxA B h h' := ⟨a.1, a.2.1, fun q hq => a.2.2 q (fun z => hq (hs q z))⟩
theorem FxA.fx {A : List Nat} {h h' : Hp} (a : FxA A h h') (F : FX h) : FX h' := ⟨by rw [a.1]; exact F.1, fun p k h1 h2 h3 h4 => by rw [a.2.1]; exact F.2 p k h1 h2 h3 h4⟩
theorem FxA.set {h : Hp} {p k : Nat} {v : Int32} {A : List Nat} (hp : p ∈ A) : FxA A h (setI h p k v) := ⟨rfl, rfl, fun q hq => by
  funext j
  rw [setI_at, if_neg]
  intro z
  rw [z.1] at hq
  exact hq hp⟩
theorem m_isIn {h : Hp} {a b : Nat} (ha : a < 2147483648) (hb : b < 2147483648) : P_X6_isIn (I a) (I b) h = some (if a < b then I 1 else I 0, h) := by
  unfold P_X6_isIn
  simp (disch := first | assumption | exact FX_setI ‹_› | exact FX_setI (FX_setI ‹_›) | exact FX_setI (FX_setI (FX_setI ‹_›)) | exact FX_setI (FX_setI (FX_setI (FX_setI ‹_›))) | omega) only [gr_0_0, gr_0_1, gr_0_2, gr_0_3, gr_0_4, gr_0_5, gr_0_6, gr_0_7, gr_1_0, gr_1_5, gr_1_7, gr_5_3, gr_5_9, gr_8_3, gr_8_9, gr_11_3, gr_11_9, gr_14_0, gr_14_1, gr_14_2, gr_18_0, gr_18_1, gr_18_2, gr_24_0, gr_24_1, gr_24_2, gr_24_3, gr_24_5, gr_24_6, gr_24_10, gr_24_11, gr_24_12, gr_24_15, al_2, al_3, al_4, al_7, al_10, al_13, al_15, al_16, al_17, al_19, al_20, al_21, al_22, al_23, al_25, al_26, al_27, al_28, al_29, al_30, al_31, al_32, al_33, al_34, as_2, as_3, as_4, as_7, as_10, as_13, as_15, as_16, as_17, as_19, as_20, as_21, as_22, as_23, as_25, as_26, as_27, as_28, as_29, as_30, as_31, as_32, as_33, as_34, gi_0, gi_1, gi_5, gi_8, gi_11, gi_14, gi_18, gi_24, pi_0, pi_1, pi_5, pi_8, pi_11, pi_14, pi_18, pi_24, rc_0, rc_1, rc_5, rc_8, rc_11, rc_14, rc_18, rc_24, ln_2, ln_3, ln_4, ln_7, ln_10, ln_13, ln_15, ln_16, ln_17, ln_19, ln_20, ln_21, ln_22, ln_23, ln_25, ln_26, ln_27, ln_28, ln_29, ln_30, ln_31, ln_32, ln_33, ln_34, ln_6, ln_9, ln_12, ci_some, cv_some, lt_eq, nn_none, nn_some, setI_1, setI_at, setI_R, upd2_at, I_add, I_addn, Int32.neg_neg, I_mul, I_ltI, I_leI, I_eqI, I_nat, if_true, if_false, reduceIte, reduceIteN, I_difn, bz_0, bz_1, nz_I, I_rem, I_div, I_sub, l4095, l32, l63, l0, l1, l2, l3, l4, l5, l6, l7, l8, l9, l10, l11, l12, l16, l24, l28, l31, l40, l48, l57, l64, l68, l78, l79, l99, l255, l2000, l2187, l1000000000]
  by_cases h1 : a < b
  · simp [h1, Nat.not_le.mpr h1]
  · simp [h1, Nat.not_lt.mp h1]
theorem m_goesInto {h : Hp} {a b : Nat} (ha : a < 2147483648) (hb : b < 2147483648) (h0 : 0 < a) : P_X6_goesInto (I a) (I b) h = some (if b % a = 0 then I 1 else I 0, h) := by
  have h1 : b % a < 2147483648 := Nat.lt_of_le_of_lt (Nat.mod_le _ _) hb
  unfold P_X6_goesInto
  simp (disch := first | assumption | exact FX_setI ‹_› | exact FX_setI (FX_setI ‹_›) | exact FX_setI (FX_setI (FX_setI ‹_›)) | exact FX_setI (FX_setI (FX_setI (FX_setI ‹_›))) | omega) only [gr_0_0, gr_0_1, gr_0_2, gr_0_3, gr_0_4, gr_0_5, gr_0_6, gr_0_7, gr_1_0, gr_1_5, gr_1_7, gr_5_3, gr_5_9, gr_8_3, gr_8_9, gr_11_3, gr_11_9, gr_14_0, gr_14_1, gr_14_2, gr_18_0, gr_18_1, gr_18_2, gr_24_0, gr_24_1, gr_24_2, gr_24_3, gr_24_5, gr_24_6, gr_24_10, gr_24_11, gr_24_12, gr_24_15, al_2, al_3, al_4, al_7, al_10, al_13, al_15, al_16, al_17, al_19, al_20, al_21, al_22, al_23, al_25, al_26, al_27, al_28, al_29, al_30, al_31, al_32, al_33, al_34, as_2, as_3, as_4, as_7, as_10, as_13, as_15, as_16, as_17, as_19, as_20, as_21, as_22, as_23, as_25, as_26, as_27, as_28, as_29, as_30, as_31, as_32, as_33, as_34, gi_0, gi_1, gi_5, gi_8, gi_11, gi_14, gi_18, gi_24, pi_0, pi_1, pi_5, pi_8, pi_11, pi_14, pi_18, pi_24, rc_0, rc_1, rc_5, rc_8, rc_11, rc_14, rc_18, rc_24, ln_2, ln_3, ln_4, ln_7, ln_10, ln_13, ln_15, ln_16, ln_17, ln_19, ln_20, ln_21, ln_22, ln_23, ln_25, ln_26, ln_27, ln_28, ln_29, ln_30, ln_31, ln_32, ln_33, ln_34, ln_6, ln_9, ln_12, ci_some, cv_some, lt_eq, nn_none, nn_some, setI_1, setI_at, setI_R, upd2_at, I_add, I_addn, Int32.neg_neg, I_mul, I_ltI, I_leI, I_eqI, I_nat, if_true, if_false, reduceIte, reduceIteN, I_difn, bz_0, bz_1, nz_I, I_rem, I_div, I_sub, l4095, l32, l63, l0, l1, l2, l3, l4, l5, l6, l7, l8, l9, l10, l11, l12, l16, l24, l28, l31, l40, l48, l57, l64, l68, l78, l79, l99, l255, l2000, l2187, l1000000000]
  split <;> rfl
theorem m_get {h : Hp} {τ : Nat → Nat} (M : MS h τ) {p k : Nat} (hp : p < 7) (hk : k < 4) : P_X6_get 24 (I p) (I k) h = some (I (τ (40 + 4 * p + k)), h) := by
  obtain ⟨F, hs⟩ := M
  unfold P_X6_get
  simp (disch := first | assumption | exact FX_setI ‹_› | exact FX_setI (FX_setI ‹_›) | exact FX_setI (FX_setI (FX_setI ‹_›)) | exact FX_setI (FX_setI (FX_setI (FX_setI ‹_›))) | omega) only [gr_0_0, gr_0_1, gr_0_2, gr_0_3, gr_0_4, gr_0_5, gr_0_6, gr_0_7, gr_1_0, gr_1_5, gr_1_7, gr_5_3, gr_5_9, gr_8_3, gr_8_9, gr_11_3, gr_11_9, gr_14_0, gr_14_1, gr_14_2, gr_18_0, gr_18_1, gr_18_2, gr_24_0, gr_24_1, gr_24_2, gr_24_3, gr_24_5, gr_24_6, gr_24_10, gr_24_11, gr_24_12, gr_24_15, al_2, al_3, al_4, al_7, al_10, al_13, al_15, al_16, al_17, al_19, al_20, al_21, al_22, al_23, al_25, al_26, al_27, al_28, al_29, al_30, al_31, al_32, al_33, al_34, as_2, as_3, as_4, as_7, as_10, as_13, as_15, as_16, as_17, as_19, as_20, as_21, as_22, as_23, as_25, as_26, as_27, as_28, as_29, as_30, as_31, as_32, as_33, as_34, gi_0, gi_1, gi_5, gi_8, gi_11, gi_14, gi_18, gi_24, pi_0, pi_1, pi_5, pi_8, pi_11, pi_14, pi_18, pi_24, rc_0, rc_1, rc_5, rc_8, rc_11, rc_14, rc_18, rc_24, ln_2, ln_3, ln_4, ln_7, ln_10, ln_13, ln_15, ln_16, ln_17, ln_19, ln_20, ln_21, ln_22, ln_23, ln_25, ln_26, ln_27, ln_28, ln_29, ln_30, ln_31, ln_32, ln_33, ln_34, ln_6, ln_9, ln_12, ci_some, cv_some, lt_eq, nn_none, nn_some, setI_1, setI_at, setI_R, upd2_at, I_add, I_addn, Int32.neg_neg, I_mul, I_ltI, I_leI, I_eqI, I_nat, if_true, if_false, reduceIte, reduceIteN, I_difn, bz_0, bz_1, nz_I, I_rem, I_div, I_sub, l4095, l32, l63, l0, l1, l2, l3, l4, l5, l6, l7, l8, l9, l10, l11, l12, l16, l24, l28, l31, l40, l48, l57, l64, l68, l78, l79, l99, l255, l2000, l2187, l1000000000, hs]
theorem m_turns {h : Hp} {σ f : Nat → Nat} (W : WF σ) (M : MS h (wset σ f)) {p d : Nat} (hp : p < σ 2) (h1 : 1 ≤ d) (h2 : d ≤ 12) : P_X6_turns 24 (I p) (I d) h = some (if tn σ p d then I 1 else I 0, h) := by
  have h7 := W.2.2.1
  have hst := W.2.2.2.2.2.2.1 (d - 1) (by omega)
  rw [show 28 + (d - 1) = 27 + d by omega] at hst
  obtain ⟨w1, ⟨w2, w3⟩, ⟨w4, w5⟩, w6⟩ := W.2.2.2.2.2.2.2.1 p hp
  obtain ⟨F, hs⟩ := id M
  unfold P_X6_turns tn gp gt
  have e : 28 + d - 1 = 27 + d := by omega
  simp (disch := first | assumption | exact FX_setI ‹_› | exact FX_setI (FX_setI ‹_›) | exact FX_setI (FX_setI (FX_setI ‹_›)) | exact FX_setI (FX_setI (FX_setI (FX_setI ‹_›))) | omega) only [gr_0_0, gr_0_1, gr_0_2, gr_0_3, gr_0_4, gr_0_5, gr_0_6, gr_0_7, gr_1_0, gr_1_5, gr_1_7, gr_5_3, gr_5_9, gr_8_3, gr_8_9, gr_11_3, gr_11_9, gr_14_0, gr_14_1, gr_14_2, gr_18_0, gr_18_1, gr_18_2, gr_24_0, gr_24_1, gr_24_2, gr_24_3, gr_24_5, gr_24_6, gr_24_10, gr_24_11, gr_24_12, gr_24_15, al_2, al_3, al_4, al_7, al_10, al_13, al_15, al_16, al_17, al_19, al_20, al_21, al_22, al_23, al_25, al_26, al_27, al_28, al_29, al_30, al_31, al_32, al_33, al_34, as_2, as_3, as_4, as_7, as_10, as_13, as_15, as_16, as_17, as_19, as_20, as_21, as_22, as_23, as_25, as_26, as_27, as_28, as_29, as_30, as_31, as_32, as_33, as_34, gi_0, gi_1, gi_5, gi_8, gi_11, gi_14, gi_18, gi_24, pi_0, pi_1, pi_5, pi_8, pi_11, pi_14, pi_18, pi_24, rc_0, rc_1, rc_5, rc_8, rc_11, rc_14, rc_18, rc_24, ln_2, ln_3, ln_4, ln_7, ln_10, ln_13, ln_15, ln_16, ln_17, ln_19, ln_20, ln_21, ln_22, ln_23, ln_25, ln_26, ln_27, ln_28, ln_29, ln_30, ln_31, ln_32, ln_33, ln_34, ln_6, ln_9, ln_12, ci_some, cv_some, lt_eq, nn_none, nn_some, setI_1, setI_at, setI_R, upd2_at, I_add, I_addn, Int32.neg_neg, I_mul, I_ltI, I_leI, I_eqI, I_nat, if_true, if_false, reduceIte, reduceIteN, I_difn, bz_0, bz_1, nz_I, I_rem, I_div, I_sub, l4095, l32, l63, l0, l1, l2, l3, l4, l5, l6, l7, l8, l9, l10, l11, l12, l16, l24, l28, l31, l40, l48, l57, l64, l68, l78, l79, l99, l255, l2000, l2187, l1000000000, hs, e, wset_hi, m_get M]
  generalize σ (27 + d) = st at *
  rw [show 40 + 4 * p + 1 = 41 + 4 * p by omega, show 40 + 4 * p + 2 = 42 + 4 * p by omega, show 40 + 4 * p + 0 = 40 + 4 * p by omega]
  generalize σ (40 + 4 * p) = k at *
  generalize σ (41 + 4 * p) = a at *
  generalize σ (42 + 4 * p) = b at *
  by_cases hs1 : st = 1
  · simp [hs1]
  · have z : ¬ I 1 = I 0 := by decide
    have z2 : ¬ I 0 = I 1 := by decide
    simp (disch := first | assumption | exact FX_setI ‹_› | exact FX_setI (FX_setI ‹_›) | exact FX_setI (FX_setI (FX_setI ‹_›)) | exact FX_setI (FX_setI (FX_setI (FX_setI ‹_›))) | omega) only [gr_0_0, gr_0_1, gr_0_2, gr_0_3, gr_0_4, gr_0_5, gr_0_6, gr_0_7, gr_1_0, gr_1_5, gr_1_7, gr_5_3, gr_5_9, gr_8_3, gr_8_9, gr_11_3, gr_11_9, gr_14_0, gr_14_1, gr_14_2, gr_18_0, gr_18_1, gr_18_2, gr_24_0, gr_24_1, gr_24_2, gr_24_3, gr_24_5, gr_24_6, gr_24_10, gr_24_11, gr_24_12, gr_24_15, al_2, al_3, al_4, al_7, al_10, al_13, al_15, al_16, al_17, al_19, al_20, al_21, al_22, al_23, al_25, al_26, al_27, al_28, al_29, al_30, al_31, al_32, al_33, al_34, as_2, as_3, as_4, as_7, as_10, as_13, as_15, as_16, as_17, as_19, as_20, as_21, as_22, as_23, as_25, as_26, as_27, as_28, as_29, as_30, as_31, as_32, as_33, as_34, gi_0, gi_1, gi_5, gi_8, gi_11, gi_14, gi_18, gi_24, pi_0, pi_1, pi_5, pi_8, pi_11, pi_14, pi_18, pi_24, rc_0, rc_1, rc_5, rc_8, rc_11, rc_14, rc_18, rc_24, ln_2, ln_3, ln_4, ln_7, ln_10, ln_13, ln_15, ln_16, ln_17, ln_19, ln_20, ln_21, ln_22, ln_23, ln_25, ln_26, ln_27, ln_28, ln_29, ln_30, ln_31, ln_32, ln_33, ln_34, ln_6, ln_9, ln_12, ci_some, cv_some, lt_eq, nn_none, nn_some, setI_1, setI_at, setI_R, upd2_at, I_add, I_addn, Int32.neg_neg, I_mul, I_ltI, I_leI, I_eqI, I_nat, if_true, if_false, reduceIte, reduceIteN, I_difn, bz_0, bz_1, nz_I, I_rem, I_div, I_sub, l4095, l32, l63, l0, l1, l2, l3, l4, l5, l6, l7, l8, l9, l10, l11, l12, l16, l24, l28, l31, l40, l48, l57, l64, l68, l78, l79, l99, l255, l2000, l2187, l1000000000, m_goesInto]
    have hk : k = 0 ∨ k = 1 ∨ k = 2 ∨ k = 3 ∨ k = 4 ∨ k = 5 := by omega
    rcases hk with rfl | rfl | rfl | rfl | rfl | rfl
    · by_cases e1 : d % a = 0 <;> simp [hs1, e1, bz_0, bz_1]
    · by_cases e1 : a % d = 0 <;> simp [hs1, e1, bz_0, bz_1]
    · by_cases e1 : d % a = 0 <;> by_cases e2 : d % b = 0 <;> simp [hs1, e1, e2, z]
    · by_cases e1 : d % a = 0 <;> by_cases e2 : d % b = 0 <;> simp [hs1, e1, e2, z]
    · by_cases e1 : d % a = 0 <;> by_cases e2 : d % b = 0 <;> simp [hs1, e1, e2, z, z2]
    · by_cases e1 : d < a <;> by_cases e2 : b < d <;> simp [hs1, e1, e2, Nat.not_le.mpr, Nat.not_lt.mp]
theorem MS_set {h : Hp} {σ : Nat → Nat} (M : MS h σ) (k v : Nat) : MS (setI h 26 k (I v)) (fun j => if j = k then v else σ j) := by
  refine ⟨FX_setI M.1, fun j hj => ?_⟩
  rw [setI_at]
  show _ = I (if j = k then v else σ j)
  by_cases hk : j = k
  · rw [if_pos ⟨rfl, hk⟩, if_pos hk]
  · rw [if_neg (fun z => hk z.2), if_neg hk]
    exact M.2 j hj
theorem m_turnsDoor {h : Hp} {σ f : Nat → Nat} (W : WF σ) (M : MS h (wset σ f)) {d : Nat} (hd : d < 12) (hf : f d < 4) : P_X6_turnsDoor 24 (I (d + 1)) h = some (setI h 26 (4 + d) (I ((f d + 1) % σ 1))) := by
  have hcol := W.col
  obtain ⟨F, hs⟩ := M
  unfold P_X6_turnsDoor
  have e : 4 + (d + 1) - 1 = 4 + d := by omega
  simp (disch := first | assumption | exact FX_setI ‹_› | exact FX_setI (FX_setI ‹_›) | exact FX_setI (FX_setI (FX_setI ‹_›)) | exact FX_setI (FX_setI (FX_setI (FX_setI ‹_›))) | omega) only [gr_0_0, gr_0_1, gr_0_2, gr_0_3, gr_0_4, gr_0_5, gr_0_6, gr_0_7, gr_1_0, gr_1_5, gr_1_7, gr_5_3, gr_5_9, gr_8_3, gr_8_9, gr_11_3, gr_11_9, gr_14_0, gr_14_1, gr_14_2, gr_18_0, gr_18_1, gr_18_2, gr_24_0, gr_24_1, gr_24_2, gr_24_3, gr_24_5, gr_24_6, gr_24_10, gr_24_11, gr_24_12, gr_24_15, al_2, al_3, al_4, al_7, al_10, al_13, al_15, al_16, al_17, al_19, al_20, al_21, al_22, al_23, al_25, al_26, al_27, al_28, al_29, al_30, al_31, al_32, al_33, al_34, as_2, as_3, as_4, as_7, as_10, as_13, as_15, as_16, as_17, as_19, as_20, as_21, as_22, as_23, as_25, as_26, as_27, as_28, as_29, as_30, as_31, as_32, as_33, as_34, gi_0, gi_1, gi_5, gi_8, gi_11, gi_14, gi_18, gi_24, pi_0, pi_1, pi_5, pi_8, pi_11, pi_14, pi_18, pi_24, rc_0, rc_1, rc_5, rc_8, rc_11, rc_14, rc_18, rc_24, ln_2, ln_3, ln_4, ln_7, ln_10, ln_13, ln_15, ln_16, ln_17, ln_19, ln_20, ln_21, ln_22, ln_23, ln_25, ln_26, ln_27, ln_28, ln_29, ln_30, ln_31, ln_32, ln_33, ln_34, ln_6, ln_9, ln_12, ci_some, cv_some, lt_eq, nn_none, nn_some, setI_1, setI_at, setI_R, upd2_at, I_add, I_addn, Int32.neg_neg, I_mul, I_ltI, I_leI, I_eqI, I_nat, if_true, if_false, reduceIte, reduceIteN, I_difn, bz_0, bz_1, nz_I, I_rem, I_div, I_sub, l4095, l32, l63, l0, l1, l2, l3, l4, l5, l6, l7, l8, l9, l10, l11, l12, l16, l24, l28, l31, l40, l48, l57, l64, l68, l78, l79, l99, l255, l2000, l2187, l1000000000, hs, e, wset_w, wset_lo]
/-- g below d, f from d on -/
def mix (d : Nat) (g f : Nat → Nat) : Nat → Nat := fun i => if i < d then g i else f i
theorem tn_wset {σ f : Nat → Nat} {p d : Nat} (hd : 1 ≤ d) : tn (wset σ f) p d = tn σ p d := by
  unfold tn gp
  rw [wset_hi (by omega), wset_hi (by omega), wset_hi (by omega), wset_hi (by omega)]
theorem m_goes_L {σ f : Nat → Nat} (W : WF σ) {p : Nat} (hp : p < σ 2) (hf : ∀ i, i < 12 → f i < σ 1) : ∀ (k d n : Nat) (h : Hp), d + k = σ 0 → k < n → MS h (wset σ (mix d (tw (σ 1) f (tb1 σ p)) f)) →
    ∃ h', P_X6_goes_L4 n 24 (I p) (I (cnt (tb1 σ p) d)) (I (d + 1)) h = some (I (cnt (tb1 σ p) (σ 0)), h') ∧ FxA [26] h h' ∧ MS h' (wset σ (mix (σ 0) (tw (σ 1) f (tb1 σ p)) f)) := by
  have hn := W.1
  have hcol := W.col
  intro k
  induction k with
  | zero =>
    intro d n h hd hn2 M
    have e : d = σ 0 := by omega
    subst e
    cases n with
    | zero => omega
    | succ n =>
      refine ⟨h, ?_, FxA.rf, M⟩
      obtain ⟨F, hs⟩ := M
      unfold P_X6_goes_L4
      simp (disch := first | assumption | exact FX_setI ‹_› | exact FX_setI (FX_setI ‹_›) | exact FX_setI (FX_setI (FX_setI ‹_›)) | exact FX_setI (FX_setI (FX_setI (FX_setI ‹_›))) | omega) only [gr_0_0, gr_0_1, gr_0_2, gr_0_3, gr_0_4, gr_0_5, gr_0_6, gr_0_7, gr_1_0, gr_1_5, gr_1_7, gr_5_3, gr_5_9, gr_8_3, gr_8_9, gr_11_3, gr_11_9, gr_14_0, gr_14_1, gr_14_2, gr_18_0, gr_18_1, gr_18_2, gr_24_0, gr_24_1, gr_24_2, gr_24_3, gr_24_5, gr_24_6, gr_24_10, gr_24_11, gr_24_12, gr_24_15, al_2, al_3, al_4, al_7, al_10, al_13, al_15, al_16, al_17, al_19, al_20, al_21, al_22, al_23, al_25, al_26, al_27, al_28, al_29, al_30, al_31, al_32, al_33, al_34, as_2, as_3, as_4, as_7, as_10, as_13, as_15, as_16, as_17, as_19, as_20, as_21, as_22, as_23, as_25, as_26, as_27, as_28, as_29, as_30, as_31, as_32, as_33, as_34, gi_0, gi_1, gi_5, gi_8, gi_11, gi_14, gi_18, gi_24, pi_0, pi_1, pi_5, pi_8, pi_11, pi_14, pi_18, pi_24, rc_0, rc_1, rc_5, rc_8, rc_11, rc_14, rc_18, rc_24, ln_2, ln_3, ln_4, ln_7, ln_10, ln_13, ln_15, ln_16, ln_17, ln_19, ln_20, ln_21, ln_22, ln_23, ln_25, ln_26, ln_27, ln_28, ln_29, ln_30, ln_31, ln_32, ln_33, ln_34, ln_6, ln_9, ln_12, ci_some, cv_some, lt_eq, nn_none, nn_some, setI_1, setI_at, setI_R, upd2_at, I_add, I_addn, Int32.neg_neg, I_mul, I_ltI, I_leI, I_eqI, I_nat, if_true, if_false, reduceIte, reduceIteN, I_difn, bz_0, bz_1, nz_I, I_rem, I_div, I_sub, l4095, l32, l63, l0, l1, l2, l3, l4, l5, l6, l7, l8, l9, l10, l11, l12, l16, l24, l28, l31, l40, l48, l57, l64, l68, l78, l79, l99, l255, l2000, l2187, l1000000000, hs, wset_lo]
  | succ k ih =>
    intro d n h hd hn2 M
    cases n with
    | zero => omega
    | succ n =>
      have hdn : d < σ 0 := by omega
      have hd12 : d < 12 := by omega
      have ht : tb1 σ p d = tn σ p (d + 1) := by unfold tb1; simp [hdn]
      have hfd := hf d hd12
      by_cases htd : tn σ p (d + 1) = true
      · have hmd : mix d (tw (σ 1) f (tb1 σ p)) f d = f d := by unfold mix; rw [if_neg (by omega)]
        have hnew : MS (setI h 26 (4 + d) (I ((f d + 1) % σ 1))) (wset σ (mix (d + 1) (tw (σ 1) f (tb1 σ p)) f)) := by
          refine MS_congr (MS_set M (4 + d) ((f d + 1) % σ 1)) (fun j hj => ?_)
          by_cases hj2 : j = 4 + d
          · subst hj2
            rw [if_pos rfl, wset_w hd12]
            unfold mix tw
            rw [if_pos (by omega), ht, htd, if_pos rfl]
          · rw [if_neg hj2]
            unfold wset mix
            split
            · by_cases h5 : j - 4 < d
              · rw [if_pos h5, if_pos (by omega)]
              · rw [if_neg h5, if_neg (by omega)]
            · rfl
        obtain ⟨h', e1, e2, e3⟩ := ih (d + 1) n _ (by omega) (by omega) hnew
        refine ⟨h', ?_, (FxA.set (by simp)).tr e2, e3⟩
        rw [cnt_succ, ht, htd, if_pos rfl] at e1
        have et := m_turns W M hp (show 1 ≤ d + 1 by omega) (show d + 1 ≤ 12 by omega)
        have ed := m_turnsDoor W M hd12 (by rw [hmd]; omega)
        rw [hmd] at ed
        obtain ⟨F, hs⟩ := M
        unfold P_X6_goes_L4
        simp (disch := first | assumption | exact FX_setI ‹_› | exact FX_setI (FX_setI ‹_›) | exact FX_setI (FX_setI (FX_setI ‹_›)) | exact FX_setI (FX_setI (FX_setI (FX_setI ‹_›))) | omega) only [gr_0_0, gr_0_1, gr_0_2, gr_0_3, gr_0_4, gr_0_5, gr_0_6, gr_0_7, gr_1_0, gr_1_5, gr_1_7, gr_5_3, gr_5_9, gr_8_3, gr_8_9, gr_11_3, gr_11_9, gr_14_0, gr_14_1, gr_14_2, gr_18_0, gr_18_1, gr_18_2, gr_24_0, gr_24_1, gr_24_2, gr_24_3, gr_24_5, gr_24_6, gr_24_10, gr_24_11, gr_24_12, gr_24_15, al_2, al_3, al_4, al_7, al_10, al_13, al_15, al_16, al_17, al_19, al_20, al_21, al_22, al_23, al_25, al_26, al_27, al_28, al_29, al_30, al_31, al_32, al_33, al_34, as_2, as_3, as_4, as_7, as_10, as_13, as_15, as_16, as_17, as_19, as_20, as_21, as_22, as_23, as_25, as_26, as_27, as_28, as_29, as_30, as_31, as_32, as_33, as_34, gi_0, gi_1, gi_5, gi_8, gi_11, gi_14, gi_18, gi_24, pi_0, pi_1, pi_5, pi_8, pi_11, pi_14, pi_18, pi_24, rc_0, rc_1, rc_5, rc_8, rc_11, rc_14, rc_18, rc_24, ln_2, ln_3, ln_4, ln_7, ln_10, ln_13, ln_15, ln_16, ln_17, ln_19, ln_20, ln_21, ln_22, ln_23, ln_25, ln_26, ln_27, ln_28, ln_29, ln_30, ln_31, ln_32, ln_33, ln_34, ln_6, ln_9, ln_12, ci_some, cv_some, lt_eq, nn_none, nn_some, setI_1, setI_at, setI_R, upd2_at, I_add, I_addn, Int32.neg_neg, I_mul, I_ltI, I_leI, I_eqI, I_nat, if_true, if_false, reduceIte, reduceIteN, I_difn, bz_0, bz_1, nz_I, I_rem, I_div, I_sub, l4095, l32, l63, l0, l1, l2, l3, l4, l5, l6, l7, l8, l9, l10, l11, l12, l16, l24, l28, l31, l40, l48, l57, l64, l68, l78, l79, l99, l255, l2000, l2187, l1000000000, hs, wset_lo, et, htd, ed]
        exact e1
      · have hnew : MS h (wset σ (mix (d + 1) (tw (σ 1) f (tb1 σ p)) f)) := by
          refine MS_congr M (fun j hj => wset_congr (fun i hi => ?_) j)
          unfold mix
          by_cases h5 : i < d
          · rw [if_pos h5, if_pos (show i < d + 1 by omega)]
          · by_cases h6 : i = d
            · subst h6
              rw [if_neg h5, if_pos (show i < i + 1 by omega)]
              unfold tw
              rw [ht, if_neg htd, Nat.add_zero, Nat.mod_eq_of_lt hfd]
            · rw [if_neg h5, if_neg (show ¬ i < d + 1 by omega)]
        obtain ⟨h', e1, e2, e3⟩ := ih (d + 1) n _ (by omega) (by omega) hnew
        refine ⟨h', ?_, e2, e3⟩
        rw [cnt_succ, ht, if_neg htd, Nat.add_zero] at e1
        have et := m_turns W M hp (show 1 ≤ d + 1 by omega) (show d + 1 ≤ 12 by omega)
        obtain ⟨F, hs⟩ := M
        unfold P_X6_goes_L4
        simp (disch := first | assumption | exact FX_setI ‹_› | exact FX_setI (FX_setI ‹_›) | exact FX_setI (FX_setI (FX_setI ‹_›)) | exact FX_setI (FX_setI (FX_setI (FX_setI ‹_›))) | omega) only [gr_0_0, gr_0_1, gr_0_2, gr_0_3, gr_0_4, gr_0_5, gr_0_6, gr_0_7, gr_1_0, gr_1_5, gr_1_7, gr_5_3, gr_5_9, gr_8_3, gr_8_9, gr_11_3, gr_11_9, gr_14_0, gr_14_1, gr_14_2, gr_18_0, gr_18_1, gr_18_2, gr_24_0, gr_24_1, gr_24_2, gr_24_3, gr_24_5, gr_24_6, gr_24_10, gr_24_11, gr_24_12, gr_24_15, al_2, al_3, al_4, al_7, al_10, al_13, al_15, al_16, al_17, al_19, al_20, al_21, al_22, al_23, al_25, al_26, al_27, al_28, al_29, al_30, al_31, al_32, al_33, al_34, as_2, as_3, as_4, as_7, as_10, as_13, as_15, as_16, as_17, as_19, as_20, as_21, as_22, as_23, as_25, as_26, as_27, as_28, as_29, as_30, as_31, as_32, as_33, as_34, gi_0, gi_1, gi_5, gi_8, gi_11, gi_14, gi_18, gi_24, pi_0, pi_1, pi_5, pi_8, pi_11, pi_14, pi_18, pi_24, rc_0, rc_1, rc_5, rc_8, rc_11, rc_14, rc_18, rc_24, ln_2, ln_3, ln_4, ln_7, ln_10, ln_13, ln_15, ln_16, ln_17, ln_19, ln_20, ln_21, ln_22, ln_23, ln_25, ln_26, ln_27, ln_28, ln_29, ln_30, ln_31, ln_32, ln_33, ln_34, ln_6, ln_9, ln_12, ci_some, cv_some, lt_eq, nn_none, nn_some, setI_1, setI_at, setI_R, upd2_at, I_add, I_addn, Int32.neg_neg, I_mul, I_ltI, I_leI, I_eqI, I_nat, if_true, if_false, reduceIte, reduceIteN, I_difn, bz_0, bz_1, nz_I, I_rem, I_div, I_sub, l4095, l32, l63, l0, l1, l2, l3, l4, l5, l6, l7, l8, l9, l10, l11, l12, l16, l24, l28, l31, l40, l48, l57, l64, l68, l78, l79, l99, l255, l2000, l2187, l1000000000, hs, wset_lo, et]
        exact e1
theorem m_goes {σ f : Nat → Nat} {h : Hp} (W : WF σ) {p : Nat} (hp : p < σ 2) (hf : ∀ i, i < 12 → f i < σ 1) (M : MS h (wset σ f)) :
    ∃ h', P_X6_goes 24 (I p) h = some (I (cnt (tb1 σ p) (σ 0)), h') ∧ FxA [26] h h' ∧ MS h' (wset σ (tw (σ 1) f (tb1 σ p))) := by
  have hn := W.1
  obtain ⟨h', e1, e2, e3⟩ := m_goes_L W hp hf (σ 0) 0 FU h (by omega) (by have := FU_eq; omega) (MS_congr M (fun j _ => wset_congr (fun i _ => by unfold mix; rw [if_neg (by omega)]) j))
  refine ⟨h', ?_, e2, MS_congr e3 (fun j _ => wset_congr (fun i hi => ?_) j)⟩
  · unfold P_X6_goes
    simp (disch := first | assumption | exact FX_setI ‹_› | exact FX_setI (FX_setI ‹_›) | exact FX_setI (FX_setI (FX_setI ‹_›)) | exact FX_setI (FX_setI (FX_setI (FX_setI ‹_›))) | omega) only [gr_0_0, gr_0_1, gr_0_2, gr_0_3, gr_0_4, gr_0_5, gr_0_6, gr_0_7, gr_1_0, gr_1_5, gr_1_7, gr_5_3, gr_5_9, gr_8_3, gr_8_9, gr_11_3, gr_11_9, gr_14_0, gr_14_1, gr_14_2, gr_18_0, gr_18_1, gr_18_2, gr_24_0, gr_24_1, gr_24_2, gr_24_3, gr_24_5, gr_24_6, gr_24_10, gr_24_11, gr_24_12, gr_24_15, al_2, al_3, al_4, al_7, al_10, al_13, al_15, al_16, al_17, al_19, al_20, al_21, al_22, al_23, al_25, al_26, al_27, al_28, al_29, al_30, al_31, al_32, al_33, al_34, as_2, as_3, as_4, as_7, as_10, as_13, as_15, as_16, as_17, as_19, as_20, as_21, as_22, as_23, as_25, as_26, as_27, as_28, as_29, as_30, as_31, as_32, as_33, as_34, gi_0, gi_1, gi_5, gi_8, gi_11, gi_14, gi_18, gi_24, pi_0, pi_1, pi_5, pi_8, pi_11, pi_14, pi_18, pi_24, rc_0, rc_1, rc_5, rc_8, rc_11, rc_14, rc_18, rc_24, ln_2, ln_3, ln_4, ln_7, ln_10, ln_13, ln_15, ln_16, ln_17, ln_19, ln_20, ln_21, ln_22, ln_23, ln_25, ln_26, ln_27, ln_28, ln_29, ln_30, ln_31, ln_32, ln_33, ln_34, ln_6, ln_9, ln_12, ci_some, cv_some, lt_eq, nn_none, nn_some, setI_1, setI_at, setI_R, upd2_at, I_add, I_addn, Int32.neg_neg, I_mul, I_ltI, I_leI, I_eqI, I_nat, if_true, if_false, reduceIte, reduceIteN, I_difn, bz_0, bz_1, nz_I, I_rem, I_div, I_sub, l4095, l32, l63, l0, l1, l2, l3, l4, l5, l6, l7, l8, l9, l10, l11, l12, l16, l24, l28, l31, l40, l48, l57, l64, l68, l78, l79, l99, l255, l2000, l2187, l1000000000]
    exact e1
  · unfold mix
    by_cases h5 : i < σ 0
    · rw [if_pos h5]
    · rw [if_neg h5]
      unfold tw tb1
      simp [h5, Nat.mod_eq_of_lt (hf i hi)]
