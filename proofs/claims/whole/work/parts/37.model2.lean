/-- turned k times -/
def twk (c : Nat) (f : Nat → Nat) (t : Nat → Bool) (k : Nat) : Nat → Nat := fun i => (f i + if t i then k else 0) % c
theorem twk_succ {c : Nat} {f : Nat → Nat} {t : Nat → Bool} {k i : Nat} : tw c (twk c f t k) t i = twk c f t (k + 1) i := by
  unfold tw twk
  cases t i
  · simp
  · simp [Nat.mod_add_mod, Nat.add_assoc]
theorem twk_0 {c : Nat} {f : Nat → Nat} {t : Nat → Bool} {i : Nat} (hf : f i < c) : twk c f t 0 i = f i := by
  unfold twk
  simp [Nat.mod_eq_of_lt hf]
theorem tw_congr {c : Nat} {f g : Nat → Nat} {t : Nat → Bool} {i : Nat} (h : f i = g i) : tw c f t i = tw c g t i := by unfold tw; rw [h]
def sm (g : Nat → Nat) : Nat → Nat
  | 0 => 0
  | n + 1 => sm g n + g n
theorem sm_succ (g : Nat → Nat) (n : Nat) : sm g (n + 1) = sm g n + g n := rfl
theorem sm_congr {f g : Nat → Nat} : ∀ n, (∀ i, i < n → f i = g i) → sm f n = sm g n
  | 0, _ => rfl
  | n + 1, h => by rw [sm_succ, sm_succ, sm_congr n (fun i hi => h i (by omega)), h n (by omega)]
/-- ways behind people's goings: person p (below P) goes dg p times -/
def wy (σ f dg : Nat → Nat) (P : Nat) : Nat → Nat := fun i => (f i + sm (fun p => if tb1 σ p i then dg p else 0) P) % σ 1
theorem wy_0 {σ f dg : Nat → Nat} {i : Nat} (hf : f i < σ 1) : wy σ f dg 0 i = f i := by
  unfold wy
  simp [sm, Nat.mod_eq_of_lt hf]
theorem wy_succ {σ f dg : Nat → Nat} {P i : Nat} : twk (σ 1) (wy σ f dg P) (tb1 σ P) (dg P) i = wy σ f dg (P + 1) i := by
  unfold twk wy
  rw [Nat.mod_add_mod, sm_succ, Nat.add_assoc]
theorem wy_lt {σ : Nat → Nat} (W : WF σ) (f dg : Nat → Nat) (P i : Nat) : wy σ f dg P i < σ 1 := Nat.mod_lt _ (by have := W.col; omega)
theorem wy_congr {σ f g dg dh : Nat → Nat} {P : Nat} (hf : ∀ i, i < 12 → f i = g i) (hd : ∀ p, p < P → dg p = dh p) : ∀ i, i < 12 → wy σ f dg P i = wy σ g dh P i := by
  intro i hi
  unfold wy
  rw [hf i hi, sm_congr P (fun p hp => by rw [hd p hp])]
/-- the model's digit of a row -/
def dgt (c row p : Nat) : Nat := row / c ^ p % c
theorem dgt_lt {c : Nat} (hc : 0 < c) (row p : Nat) : dgt c row p < c := Nat.mod_lt _ hc
theorem m_timesOf_L {σ f : Nat → Nat} {h : Hp} (W : WF σ) (M : MS h (wset σ f)) {row p : Nat} (hr : row < 2147483648) (hp : p < 20) : ∀ (k j n : Nat), j + k = p → k < n → P_X6_timesOf_L5 n 24 (I p) (I (row / σ 1 ^ j)) (I j) h = some (I (dgt (σ 1) row p), h) := by
  have hcol := W.col
  obtain ⟨F, hs⟩ := M
  intro k
  induction k with
  | zero =>
    intro j n hj hn
    cases n with
    | zero => omega
    | succ n =>
      have e : j = p := by omega
      subst e
      have hb : row / σ 1 ^ j < 2147483648 := Nat.lt_of_le_of_lt (Nat.div_le_self _ _) hr
      unfold P_X6_timesOf_L5 dgt
      simp (disch := first | assumption | omega) only [gr_0_0, gr_0_1, gr_0_2, gr_0_3, gr_0_4, gr_0_5, gr_0_6, gr_0_7, gr_1_0, gr_1_5, gr_1_7, gr_5_3, gr_5_9, gr_8_3, gr_8_9, gr_11_3, gr_11_9, gr_14_0, gr_14_1, gr_14_2, gr_18_0, gr_18_1, gr_18_2, gr_24_0, gr_24_1, gr_24_2, gr_24_3, gr_24_5, gr_24_6, gr_24_10, gr_24_11, gr_24_12, gr_24_15, al_2, al_3, al_4, al_7, al_10, al_13, al_15, al_16, al_17, al_19, al_20, al_21, al_22, al_23, al_25, al_26, al_27, al_28, al_29, al_30, al_31, al_32, al_33, al_34, as_2, as_3, as_4, as_7, as_10, as_13, as_15, as_16, as_17, as_19, as_20, as_21, as_22, as_23, as_25, as_26, as_27, as_28, as_29, as_30, as_31, as_32, as_33, as_34, gi_0, gi_1, gi_5, gi_8, gi_11, gi_14, gi_18, gi_24, pi_0, pi_1, pi_5, pi_8, pi_11, pi_14, pi_18, pi_24, rc_0, rc_1, rc_5, rc_8, rc_11, rc_14, rc_18, rc_24, ln_2, ln_3, ln_4, ln_7, ln_10, ln_13, ln_15, ln_16, ln_17, ln_19, ln_20, ln_21, ln_22, ln_23, ln_25, ln_26, ln_27, ln_28, ln_29, ln_30, ln_31, ln_32, ln_33, ln_34, ln_6, ln_9, ln_12, ci_some, cv_some, lt_eq, nn_none, nn_some, setI_1, setI_at, setI_R, upd2_at, I_add, I_addn, Int32.neg_neg, I_mul, I_ltI, I_leI, I_eqI, I_nat, if_true, if_false, reduceIte, reduceIteN, I_difn, bz_0, bz_1, nz_I, I_rem, I_div, I_sub, l4095, l32, l63, l0, l1, l2, l3, l4, l5, l6, l7, l8, l9, l10, l11, l12, l16, l24, l28, l31, l40, l48, l57, l64, l68, l78, l79, l99, l255, l2000, l2187, l1000000000, hs, wset_lo]
  | succ k ih =>
    intro j n hj hn
    cases n with
    | zero => omega
    | succ n =>
      have hb : row / σ 1 ^ j < 2147483648 := Nat.lt_of_le_of_lt (Nat.div_le_self _ _) hr
      have h1 := ih (j + 1) n (by omega) (by omega)
      rw [Nat.pow_succ, ← Nat.div_div_eq_div_mul] at h1
      unfold P_X6_timesOf_L5
      simp (disch := first | assumption | omega) only [gr_0_0, gr_0_1, gr_0_2, gr_0_3, gr_0_4, gr_0_5, gr_0_6, gr_0_7, gr_1_0, gr_1_5, gr_1_7, gr_5_3, gr_5_9, gr_8_3, gr_8_9, gr_11_3, gr_11_9, gr_14_0, gr_14_1, gr_14_2, gr_18_0, gr_18_1, gr_18_2, gr_24_0, gr_24_1, gr_24_2, gr_24_3, gr_24_5, gr_24_6, gr_24_10, gr_24_11, gr_24_12, gr_24_15, al_2, al_3, al_4, al_7, al_10, al_13, al_15, al_16, al_17, al_19, al_20, al_21, al_22, al_23, al_25, al_26, al_27, al_28, al_29, al_30, al_31, al_32, al_33, al_34, as_2, as_3, as_4, as_7, as_10, as_13, as_15, as_16, as_17, as_19, as_20, as_21, as_22, as_23, as_25, as_26, as_27, as_28, as_29, as_30, as_31, as_32, as_33, as_34, gi_0, gi_1, gi_5, gi_8, gi_11, gi_14, gi_18, gi_24, pi_0, pi_1, pi_5, pi_8, pi_11, pi_14, pi_18, pi_24, rc_0, rc_1, rc_5, rc_8, rc_11, rc_14, rc_18, rc_24, ln_2, ln_3, ln_4, ln_7, ln_10, ln_13, ln_15, ln_16, ln_17, ln_19, ln_20, ln_21, ln_22, ln_23, ln_25, ln_26, ln_27, ln_28, ln_29, ln_30, ln_31, ln_32, ln_33, ln_34, ln_6, ln_9, ln_12, ci_some, cv_some, lt_eq, nn_none, nn_some, setI_1, setI_at, setI_R, upd2_at, I_add, I_addn, Int32.neg_neg, I_mul, I_ltI, I_leI, I_eqI, I_nat, if_true, if_false, reduceIte, reduceIteN, I_difn, bz_0, bz_1, nz_I, I_rem, I_div, I_sub, l4095, l32, l63, l0, l1, l2, l3, l4, l5, l6, l7, l8, l9, l10, l11, l12, l16, l24, l28, l31, l40, l48, l57, l64, l68, l78, l79, l99, l255, l2000, l2187, l1000000000, hs, wset_lo]
      exact h1
theorem m_timesOf {σ f : Nat → Nat} {h : Hp} (W : WF σ) (M : MS h (wset σ f)) {row p : Nat} (hr : row < 2147483648) (hp : p < 20) : P_X6_timesOf 24 (I row) (I p) h = some (I (dgt (σ 1) row p), h) := by
  have h1 := m_timesOf_L W M hr hp p 0 FU (by omega) (by have := FU_eq; omega)
  rw [Nat.pow_zero, Nat.div_one] at h1
  unfold P_X6_timesOf
  simp (disch := first | assumption | omega) only [gr_0_0, gr_0_1, gr_0_2, gr_0_3, gr_0_4, gr_0_5, gr_0_6, gr_0_7, gr_1_0, gr_1_5, gr_1_7, gr_5_3, gr_5_9, gr_8_3, gr_8_9, gr_11_3, gr_11_9, gr_14_0, gr_14_1, gr_14_2, gr_18_0, gr_18_1, gr_18_2, gr_24_0, gr_24_1, gr_24_2, gr_24_3, gr_24_5, gr_24_6, gr_24_10, gr_24_11, gr_24_12, gr_24_15, al_2, al_3, al_4, al_7, al_10, al_13, al_15, al_16, al_17, al_19, al_20, al_21, al_22, al_23, al_25, al_26, al_27, al_28, al_29, al_30, al_31, al_32, al_33, al_34, as_2, as_3, as_4, as_7, as_10, as_13, as_15, as_16, as_17, as_19, as_20, as_21, as_22, as_23, as_25, as_26, as_27, as_28, as_29, as_30, as_31, as_32, as_33, as_34, gi_0, gi_1, gi_5, gi_8, gi_11, gi_14, gi_18, gi_24, pi_0, pi_1, pi_5, pi_8, pi_11, pi_14, pi_18, pi_24, rc_0, rc_1, rc_5, rc_8, rc_11, rc_14, rc_18, rc_24, ln_2, ln_3, ln_4, ln_7, ln_10, ln_13, ln_15, ln_16, ln_17, ln_19, ln_20, ln_21, ln_22, ln_23, ln_25, ln_26, ln_27, ln_28, ln_29, ln_30, ln_31, ln_32, ln_33, ln_34, ln_6, ln_9, ln_12, ci_some, cv_some, lt_eq, nn_none, nn_some, setI_1, setI_at, setI_R, upd2_at, I_add, I_addn, Int32.neg_neg, I_mul, I_ltI, I_leI, I_eqI, I_nat, if_true, if_false, reduceIte, reduceIteN, I_difn, bz_0, bz_1, nz_I, I_rem, I_div, I_sub, l4095, l32, l63, l0, l1, l2, l3, l4, l5, l6, l7, l8, l9, l10, l11, l12, l16, l24, l28, l31, l40, l48, l57, l64, l68, l78, l79, l99, l255, l2000, l2187, l1000000000]
  exact h1
theorem m_goesRow_L19 {σ : Nat → Nat} (W : WF σ) {p : Nat} (hp : p < σ 2) (row : Int32) (kont : Hp → Option Hp) {f : Nat → Nat} (hf : ∀ i, i < 12 → f i < σ 1) : ∀ (k j n : Nat) (h : Hp), k < n → MS h (wset σ (twk (σ 1) f (tb1 σ p) j)) →
    ∃ h', P_X6_goesRow_L19 n 24 row (I p) (I k) h kont = kont h' ∧ FxA [26] h h' ∧ MS h' (wset σ (twk (σ 1) f (tb1 σ p) (j + k))) := by
  intro k
  induction k with
  | zero =>
    intro j n h hn M
    cases n with
    | zero => omega
    | succ n =>
      refine ⟨h, ?_, FxA.rf, M⟩
      unfold P_X6_goesRow_L19
      simp (disch := first | assumption | omega) only [gr_0_0, gr_0_1, gr_0_2, gr_0_3, gr_0_4, gr_0_5, gr_0_6, gr_0_7, gr_1_0, gr_1_5, gr_1_7, gr_5_3, gr_5_9, gr_8_3, gr_8_9, gr_11_3, gr_11_9, gr_14_0, gr_14_1, gr_14_2, gr_18_0, gr_18_1, gr_18_2, gr_24_0, gr_24_1, gr_24_2, gr_24_3, gr_24_5, gr_24_6, gr_24_10, gr_24_11, gr_24_12, gr_24_15, al_2, al_3, al_4, al_7, al_10, al_13, al_15, al_16, al_17, al_19, al_20, al_21, al_22, al_23, al_25, al_26, al_27, al_28, al_29, al_30, al_31, al_32, al_33, al_34, as_2, as_3, as_4, as_7, as_10, as_13, as_15, as_16, as_17, as_19, as_20, as_21, as_22, as_23, as_25, as_26, as_27, as_28, as_29, as_30, as_31, as_32, as_33, as_34, gi_0, gi_1, gi_5, gi_8, gi_11, gi_14, gi_18, gi_24, pi_0, pi_1, pi_5, pi_8, pi_11, pi_14, pi_18, pi_24, rc_0, rc_1, rc_5, rc_8, rc_11, rc_14, rc_18, rc_24, ln_2, ln_3, ln_4, ln_7, ln_10, ln_13, ln_15, ln_16, ln_17, ln_19, ln_20, ln_21, ln_22, ln_23, ln_25, ln_26, ln_27, ln_28, ln_29, ln_30, ln_31, ln_32, ln_33, ln_34, ln_6, ln_9, ln_12, ci_some, cv_some, lt_eq, nn_none, nn_some, setI_1, setI_at, setI_R, upd2_at, I_add, I_addn, Int32.neg_neg, I_mul, I_ltI, I_leI, I_eqI, I_nat, if_true, if_false, reduceIte, reduceIteN, I_difn, bz_0, bz_1, nz_I, I_rem, I_div, I_sub, l4095, l32, l63, l0, l1, l2, l3, l4, l5, l6, l7, l8, l9, l10, l11, l12, l16, l24, l28, l31, l40, l48, l57, l64, l68, l78, l79, l99, l255, l2000, l2187, l1000000000]
  | succ k ih =>
    intro j n h hn M
    cases n with
    | zero => omega
    | succ n =>
      obtain ⟨h1, e1, e2, e3⟩ := m_goes W hp (fun i hi => Nat.mod_lt _ (by have := W.col; omega)) M
      obtain ⟨h2, r1, r2, r3⟩ := ih (j + 1) n h1 (by omega) (MS_congr e3 (fun q _ => wset_congr (fun i _ => twk_succ) q))
      refine ⟨h2, ?_, e2.tr r2, by rw [show j + (k + 1) = j + 1 + k by omega]; exact r3⟩
      sorry
