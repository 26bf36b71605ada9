/-! A house, told pure -/
def sc1 (t : Nat → Nat) (n : Nat) : Nat → Nat → Option Nat
  | 0, _ => none
  | m + 1, i => if (rsS t n i).1 = true then (if (rsS t n i).2 < n then sc1 t n m (rsS t n i).2 else none) else some (rsS t n i).2
def scn (t : Nat → Nat) (n : Nat) : Nat → Nat → Nat
  | 0, _ => 0
  | m + 1, i => if n ≤ i then 0 else scn t n m (rsS t n i).2 + 1
def ph2 (t : Nat → Nat) (n : Nat) : Nat → Nat → (Nat → Nat) → Sum Nat (Nat → Nat)
  | 0, _, σ => Sum.inr σ
  | m + 1, i, σ => if n ≤ i then Sum.inr σ else (match obd t n i σ with
    | some τ => ph2 t n m (rsS t n i).2 τ
    | none => Sum.inl i)
theorem sc1_succ (t : Nat → Nat) (n m i : Nat) : sc1 t n (m + 1) i = if (rsS t n i).1 = true then (if (rsS t n i).2 < n then sc1 t n m (rsS t n i).2 else none) else some (rsS t n i).2 := rfl
theorem scn_succ (t : Nat → Nat) (n m i : Nat) : scn t n (m + 1) i = if n ≤ i then 0 else scn t n m (rsS t n i).2 + 1 := rfl
theorem scn_end {t : Nat → Nat} {n i : Nat} (h : n ≤ i) : ∀ m, scn t n m i = 0
  | 0 => rfl
  | m + 1 => by rw [scn_succ, if_pos h]
theorem ph2_succ (t : Nat → Nat) (n m i : Nat) (σ : Nat → Nat) : ph2 t n (m + 1) i σ = if n ≤ i then Sum.inr σ else (match obd t n i σ with
    | some τ => ph2 t n m (rsS t n i).2 τ
    | none => Sum.inl i) := rfl
theorem bnd_1 {x : Bool × Nat} {f : Nat → Bool × Nat} (h : (bnd x f).1 = true) : x.1 = true ∧ bnd x f = f x.2 := by
  unfold bnd at h ⊢
  by_cases hx : x.1 = true
  · exact ⟨hx, if_pos hx⟩
  · rw [if_neg hx] at h
    exact absurd h hx
theorem tk_1 {t : Nat → Nat} {n c i : Nat} (h : (tkS t n c i).1 = true) : i < n ∧ (tkS t n c i).2 = i + 1 := by
  unfold tkS at h ⊢
  by_cases hx : isc t n i c = true
  · rw [if_pos hx]
    exact ⟨(isc_iff.mp hx).1, rfl⟩
  · rw [if_neg hx] at h
    cases h
theorem kd_1 {t : Nat → Nat} {n i : Nat} (h : (kdS t n i).1 = true) : kdn (t i) < 6 ∧ (kdS t n i).2 = i + 1 := by
  unfold kdS at h ⊢
  by_cases hx : (decide (i < n) && decide (kdn (t i) < 6)) = true
  · rw [if_pos hx]
    simp at hx
    exact ⟨hx.2, rfl⟩
  · rw [if_neg hx] at h
    cases h
theorem rd_2 (t : Nat → Nat) (n m i : Nat) : i ≤ (rdS t n m i).2 := Nat.le_add_right _ _
theorem rs_adv {t : Nat → Nat} {n i : Nat} (h : (rsS t n i).1 = true) : i < n ∧ (0 < hds (t i) ∨ t i = 112) ∧ i < (rsS t n i).2 ∧ (rsS t n i).2 ≤ n ∧ (t i = 112 → kdn (t (i + 1)) ≤ 5) := by
  unfold rsS at h ⊢
  by_cases h1 : i < n ∧ t i = 112
  · rw [if_pos h1] at h ⊢
    unfold rsP at h ⊢
    obtain ⟨a1, e1⟩ := bnd_1 h
    obtain ⟨k1, k2⟩ := kd_1 a1
    rw [e1] at h ⊢
    obtain ⟨a2, e2⟩ := bnd_1 h
    rw [e2] at h ⊢
    obtain ⟨a3, e3⟩ := bnd_1 h
    obtain ⟨-, t3⟩ := tk_1 a3
    rw [e3] at h ⊢
    obtain ⟨a4, e4⟩ := bnd_1 h
    rw [e4] at h ⊢
    obtain ⟨a5, e5⟩ := bnd_1 h
    obtain ⟨-, t5⟩ := tk_1 a5
    rw [e5] at h ⊢
    obtain ⟨a6, e6⟩ := bnd_1 h
    rw [e6] at h ⊢
    obtain ⟨t7, t8⟩ := tk_1 h
    rw [t8]
    have m1 := rd_2 t n 2 (kdS t n (i + 1)).2
    have m2 := rd_2 t n 2 (tkS t n 44 (rdS t n 2 (kdS t n (i + 1)).2).2).2
    have m3 := rd_2 t n 1 (tkS t n 44 (rdS t n 2 (tkS t n 44 (rdS t n 2 (kdS t n (i + 1)).2).2).2).2).2
    exact ⟨h1.1, Or.inr h1.2, by omega, by omega, fun _ => by omega⟩
  · rw [if_neg h1] at h ⊢
    by_cases h2 : i < n ∧ 0 < hds (t i)
    · rw [if_pos h2] at h ⊢
      unfold rsD at h ⊢
      obtain ⟨a1, e1⟩ := bnd_1 h
      rw [e1] at h ⊢
      obtain ⟨t7, t8⟩ := tk_1 h
      have m1 := rd_2 t n (hds (t i)) (i + 1)
      rw [t8]
      exact ⟨h2.1, Or.inl h2.2, by omega, by omega, fun z => absurd ⟨h2.1, z⟩ h1⟩
    · rw [if_neg h2] at h
      cases h
/-- what the scan has shown of the statement at i -/
theorem sc1_ok {t : Nat → Nat} {n m i : Nat} (h : sc1 t n (m + 1) i = none) : (rsS t n i).1 = true ∧ ((rsS t n i).2 < n → sc1 t n m (rsS t n i).2 = none) := by
  rw [sc1_succ] at h
  by_cases h1 : (rsS t n i).1 = true
  · rw [if_pos h1] at h
    exact ⟨h1, fun h2 => by rw [if_pos h2] at h; exact h⟩
  · rw [if_neg h1] at h
    cases h
def om : Option Nat → Int32
  | some j => I j
  | none => -I 1
theorem c_scan {t : Nat → Nat} {n : Nat} (hn : n ≤ 64) (ht : ∀ i, i < n → t i ≤ 255) : ∀ (k i c m : Nat) (h : Hp) (hd : Int32), n ≤ i + k → k + 1 < m → TC t n hd h → h.2.1 1 2 = I i → c ≤ i → (c = 0 → i = 0) → (0 < c → i < n) →
    ∃ h' hd', P_X3_misplaced_L6 m 1 (I c) h = some (om (sc1 t n (k + 1) i), h') ∧ FxA A3 h h' ∧ TC t n hd' h' := by
  intro k
  induction k with
  | zero =>
    intro i c m h hd hk hm T ha hc h0 h1
    have hc0 : c = 0 := by
      by_cases e : c = 0
      · exact e
      · have := h1 (by omega); omega
    have hi0 := h0 hc0
    subst hc0
    subst hi0
    obtain ⟨m, rfl⟩ : ∃ m', m = m' + 1 := ⟨m - 1, by omega⟩
    have F := T.1
    obtain ⟨h', e1, e2, e3, e4, e5⟩ := c_stmt hn ht T ha (by omega)
    have hr : (rsS t n 0).1 = false := by
      cases e : (rsS t n 0).1
      · rfl
      · have := (rs_adv e).1; omega
    rw [hr, bi_f] at e1
    refine ⟨h', _, ?_, e2, e3⟩
    rw [sc1_succ, if_neg (by rw [hr]; decide)]
    have F' := e3.1
    unfold P_X3_misplaced_L6
    simp (disch := first | assumption | exact FX_setI ‹_› | exact FX_setI (FX_setI ‹_›) | exact FX_setI (FX_setI (FX_setI ‹_›)) | exact FX_setI (FX_setI (FX_setI (FX_setI ‹_›))) | omega) only [gr_0_0, gr_0_1, gr_0_2, gr_0_3, gr_0_4, gr_0_5, gr_0_6, gr_0_7, gr_1_0, gr_1_5, gr_1_7, gr_5_3, gr_5_9, gr_8_3, gr_8_9, gr_11_3, gr_11_9, gr_14_0, gr_14_1, gr_14_2, gr_18_0, gr_18_1, gr_18_2, gr_24_0, gr_24_1, gr_24_2, gr_24_3, gr_24_5, gr_24_6, gr_24_10, gr_24_11, gr_24_12, gr_24_15, al_2, al_3, al_4, al_7, al_10, al_13, al_15, al_16, al_17, al_19, al_20, al_21, al_22, al_23, al_25, al_26, al_27, al_28, al_29, al_30, al_31, al_32, al_33, al_34, as_2, as_3, as_4, as_7, as_10, as_13, as_15, as_16, as_17, as_19, as_20, as_21, as_22, as_23, as_25, as_26, as_27, as_28, as_29, as_30, as_31, as_32, as_33, as_34, gi_0, gi_1, gi_5, gi_8, gi_11, gi_14, gi_18, gi_24, pi_0, pi_1, pi_5, pi_8, pi_11, pi_14, pi_18, pi_24, rc_0, rc_1, rc_5, rc_8, rc_11, rc_14, rc_18, rc_24, ln_2, ln_3, ln_4, ln_7, ln_10, ln_13, ln_15, ln_16, ln_17, ln_19, ln_20, ln_21, ln_22, ln_23, ln_25, ln_26, ln_27, ln_28, ln_29, ln_30, ln_31, ln_32, ln_33, ln_34, ln_6, ln_9, ln_12, ciN, cvN, lt_eq, nn_none, nn_some, setI_1, setI_at, setI_R, upd2_at, I_add, I_addn, Int32.neg_neg, I_mul, I_ltI, I_leI, I_eqI, I_nat, if_true, if_false, reduceIte, reduceIteN, I_difn, bz_0, bz_1, nz_I, I_rem, I_div, I_sub, l4095, l32, l63, l0, l1, l2, l3, l4, l5, l6, l7, l8, l9, l10, l11, l12, l16, l24, l28, l31, l40, l48, l57, l64, l68, l78, l79, l99, l255, l2000, l2187, l1000000000, e1, e4]
    rfl
  | succ k ih =>
    intro i c m h hd hk hm T ha hc h0 h1
    obtain ⟨m, rfl⟩ : ∃ m', m = m' + 2 := ⟨m - 2, by omega⟩
    have F := T.1
    have k1 := T.2.1
    have hi64 : i ≤ 64 := by
      by_cases e : c = 0
      · have := h0 e; omega
      · have := h1 (by omega); omega
    have hc64 : c < 64 := by
      by_cases e : c = 0
      · omega
      · have := h1 (by omega); omega
    obtain ⟨h', e1, e2, e3, e4, e5⟩ := c_stmt hn ht T ha hi64
    have F' := e3.1
    have k1' := e3.2.1
    have step : P_X3_misplaced_L6 (m + 2) 1 (I c) h = if (rsS t n i).1 = true then P_X3_misplaced_L6 (m + 1) 1 (I (c + 1)) h' else some (I (rsS t n i).2, h') := by
      conv => lhs; unfold P_X3_misplaced_L6
      cases hr : (rsS t n i).1
      · rw [hr, bi_f] at e1
        rw [if_neg Bool.false_ne_true]
        by_cases e : c = 0
        · simp (disch := first | assumption | exact FX_setI ‹_› | exact FX_setI (FX_setI ‹_›) | exact FX_setI (FX_setI (FX_setI ‹_›)) | exact FX_setI (FX_setI (FX_setI (FX_setI ‹_›))) | omega) only [gr_0_0, gr_0_1, gr_0_2, gr_0_3, gr_0_4, gr_0_5, gr_0_6, gr_0_7, gr_1_0, gr_1_5, gr_1_7, gr_5_3, gr_5_9, gr_8_3, gr_8_9, gr_11_3, gr_11_9, gr_14_0, gr_14_1, gr_14_2, gr_18_0, gr_18_1, gr_18_2, gr_24_0, gr_24_1, gr_24_2, gr_24_3, gr_24_5, gr_24_6, gr_24_10, gr_24_11, gr_24_12, gr_24_15, al_2, al_3, al_4, al_7, al_10, al_13, al_15, al_16, al_17, al_19, al_20, al_21, al_22, al_23, al_25, al_26, al_27, al_28, al_29, al_30, al_31, al_32, al_33, al_34, as_2, as_3, as_4, as_7, as_10, as_13, as_15, as_16, as_17, as_19, as_20, as_21, as_22, as_23, as_25, as_26, as_27, as_28, as_29, as_30, as_31, as_32, as_33, as_34, gi_0, gi_1, gi_5, gi_8, gi_11, gi_14, gi_18, gi_24, pi_0, pi_1, pi_5, pi_8, pi_11, pi_14, pi_18, pi_24, rc_0, rc_1, rc_5, rc_8, rc_11, rc_14, rc_18, rc_24, ln_2, ln_3, ln_4, ln_7, ln_10, ln_13, ln_15, ln_16, ln_17, ln_19, ln_20, ln_21, ln_22, ln_23, ln_25, ln_26, ln_27, ln_28, ln_29, ln_30, ln_31, ln_32, ln_33, ln_34, ln_6, ln_9, ln_12, ciN, cvN, lt_eq, nn_none, nn_some, setI_1, setI_at, setI_R, upd2_at, I_add, I_addn, Int32.neg_neg, I_mul, I_ltI, I_leI, I_eqI, I_nat, if_true, if_false, reduceIte, reduceIteN, I_difn, bz_0, bz_1, nz_I, I_rem, I_div, I_sub, l4095, l32, l63, l0, l1, l2, l3, l4, l5, l6, l7, l8, l9, l10, l11, l12, l16, l24, l28, l31, l40, l48, l57, l64, l68, l78, l79, l99, l255, l2000, l2187, l1000000000, e1, e4, e]
        · have := h1 (by omega)
          simp (disch := first | assumption | exact FX_setI ‹_› | exact FX_setI (FX_setI ‹_›) | exact FX_setI (FX_setI (FX_setI ‹_›)) | exact FX_setI (FX_setI (FX_setI (FX_setI ‹_›))) | omega) only [gr_0_0, gr_0_1, gr_0_2, gr_0_3, gr_0_4, gr_0_5, gr_0_6, gr_0_7, gr_1_0, gr_1_5, gr_1_7, gr_5_3, gr_5_9, gr_8_3, gr_8_9, gr_11_3, gr_11_9, gr_14_0, gr_14_1, gr_14_2, gr_18_0, gr_18_1, gr_18_2, gr_24_0, gr_24_1, gr_24_2, gr_24_3, gr_24_5, gr_24_6, gr_24_10, gr_24_11, gr_24_12, gr_24_15, al_2, al_3, al_4, al_7, al_10, al_13, al_15, al_16, al_17, al_19, al_20, al_21, al_22, al_23, al_25, al_26, al_27, al_28, al_29, al_30, al_31, al_32, al_33, al_34, as_2, as_3, as_4, as_7, as_10, as_13, as_15, as_16, as_17, as_19, as_20, as_21, as_22, as_23, as_25, as_26, as_27, as_28, as_29, as_30, as_31, as_32, as_33, as_34, gi_0, gi_1, gi_5, gi_8, gi_11, gi_14, gi_18, gi_24, pi_0, pi_1, pi_5, pi_8, pi_11, pi_14, pi_18, pi_24, rc_0, rc_1, rc_5, rc_8, rc_11, rc_14, rc_18, rc_24, ln_2, ln_3, ln_4, ln_7, ln_10, ln_13, ln_15, ln_16, ln_17, ln_19, ln_20, ln_21, ln_22, ln_23, ln_25, ln_26, ln_27, ln_28, ln_29, ln_30, ln_31, ln_32, ln_33, ln_34, ln_6, ln_9, ln_12, ciN, cvN, lt_eq, nn_none, nn_some, setI_1, setI_at, setI_R, upd2_at, I_add, I_addn, Int32.neg_neg, I_mul, I_ltI, I_leI, I_eqI, I_nat, if_true, if_false, reduceIte, reduceIteN, I_difn, bz_0, bz_1, nz_I, I_rem, I_div, I_sub, l4095, l32, l63, l0, l1, l2, l3, l4, l5, l6, l7, l8, l9, l10, l11, l12, l16, l24, l28, l31, l40, l48, l57, l64, l68, l78, l79, l99, l255, l2000, l2187, l1000000000, e1, e4, e, ha, k1]
      · rw [hr, bi_t] at e1
        rw [if_pos rfl]
        by_cases e : c = 0
        · simp (disch := first | assumption | exact FX_setI ‹_› | exact FX_setI (FX_setI ‹_›) | exact FX_setI (FX_setI (FX_setI ‹_›)) | exact FX_setI (FX_setI (FX_setI (FX_setI ‹_›))) | omega) only [gr_0_0, gr_0_1, gr_0_2, gr_0_3, gr_0_4, gr_0_5, gr_0_6, gr_0_7, gr_1_0, gr_1_5, gr_1_7, gr_5_3, gr_5_9, gr_8_3, gr_8_9, gr_11_3, gr_11_9, gr_14_0, gr_14_1, gr_14_2, gr_18_0, gr_18_1, gr_18_2, gr_24_0, gr_24_1, gr_24_2, gr_24_3, gr_24_5, gr_24_6, gr_24_10, gr_24_11, gr_24_12, gr_24_15, al_2, al_3, al_4, al_7, al_10, al_13, al_15, al_16, al_17, al_19, al_20, al_21, al_22, al_23, al_25, al_26, al_27, al_28, al_29, al_30, al_31, al_32, al_33, al_34, as_2, as_3, as_4, as_7, as_10, as_13, as_15, as_16, as_17, as_19, as_20, as_21, as_22, as_23, as_25, as_26, as_27, as_28, as_29, as_30, as_31, as_32, as_33, as_34, gi_0, gi_1, gi_5, gi_8, gi_11, gi_14, gi_18, gi_24, pi_0, pi_1, pi_5, pi_8, pi_11, pi_14, pi_18, pi_24, rc_0, rc_1, rc_5, rc_8, rc_11, rc_14, rc_18, rc_24, ln_2, ln_3, ln_4, ln_7, ln_10, ln_13, ln_15, ln_16, ln_17, ln_19, ln_20, ln_21, ln_22, ln_23, ln_25, ln_26, ln_27, ln_28, ln_29, ln_30, ln_31, ln_32, ln_33, ln_34, ln_6, ln_9, ln_12, ciN, cvN, lt_eq, nn_none, nn_some, setI_1, setI_at, setI_R, upd2_at, I_add, I_addn, Int32.neg_neg, I_mul, I_ltI, I_leI, I_eqI, I_nat, if_true, if_false, reduceIte, reduceIteN, I_difn, bz_0, bz_1, nz_I, I_rem, I_div, I_sub, l4095, l32, l63, l0, l1, l2, l3, l4, l5, l6, l7, l8, l9, l10, l11, l12, l16, l24, l28, l31, l40, l48, l57, l64, l68, l78, l79, l99, l255, l2000, l2187, l1000000000, e1, e]
        · have := h1 (by omega)
          simp (disch := first | assumption | exact FX_setI ‹_› | exact FX_setI (FX_setI ‹_›) | exact FX_setI (FX_setI (FX_setI ‹_›)) | exact FX_setI (FX_setI (FX_setI (FX_setI ‹_›))) | omega) only [gr_0_0, gr_0_1, gr_0_2, gr_0_3, gr_0_4, gr_0_5, gr_0_6, gr_0_7, gr_1_0, gr_1_5, gr_1_7, gr_5_3, gr_5_9, gr_8_3, gr_8_9, gr_11_3, gr_11_9, gr_14_0, gr_14_1, gr_14_2, gr_18_0, gr_18_1, gr_18_2, gr_24_0, gr_24_1, gr_24_2, gr_24_3, gr_24_5, gr_24_6, gr_24_10, gr_24_11, gr_24_12, gr_24_15, al_2, al_3, al_4, al_7, al_10, al_13, al_15, al_16, al_17, al_19, al_20, al_21, al_22, al_23, al_25, al_26, al_27, al_28, al_29, al_30, al_31, al_32, al_33, al_34, as_2, as_3, as_4, as_7, as_10, as_13, as_15, as_16, as_17, as_19, as_20, as_21, as_22, as_23, as_25, as_26, as_27, as_28, as_29, as_30, as_31, as_32, as_33, as_34, gi_0, gi_1, gi_5, gi_8, gi_11, gi_14, gi_18, gi_24, pi_0, pi_1, pi_5, pi_8, pi_11, pi_14, pi_18, pi_24, rc_0, rc_1, rc_5, rc_8, rc_11, rc_14, rc_18, rc_24, ln_2, ln_3, ln_4, ln_7, ln_10, ln_13, ln_15, ln_16, ln_17, ln_19, ln_20, ln_21, ln_22, ln_23, ln_25, ln_26, ln_27, ln_28, ln_29, ln_30, ln_31, ln_32, ln_33, ln_34, ln_6, ln_9, ln_12, ciN, cvN, lt_eq, nn_none, nn_some, setI_1, setI_at, setI_R, upd2_at, I_add, I_addn, Int32.neg_neg, I_mul, I_ltI, I_leI, I_eqI, I_nat, if_true, if_false, reduceIte, reduceIteN, I_difn, bz_0, bz_1, nz_I, I_rem, I_div, I_sub, l4095, l32, l63, l0, l1, l2, l3, l4, l5, l6, l7, l8, l9, l10, l11, l12, l16, l24, l28, l31, l40, l48, l57, l64, l68, l78, l79, l99, l255, l2000, l2187, l1000000000, e1, e, ha, k1]
    rw [step, sc1_succ]
    cases hr : (rsS t n i).1
    · rw [if_neg Bool.false_ne_true, if_neg Bool.false_ne_true]
      exact ⟨h', _, rfl, e2, e3⟩
    · rw [if_pos rfl, if_pos rfl]
      have ad := rs_adv hr
      by_cases hj : (rsS t n i).2 < n
      · rw [if_pos hj]
        obtain ⟨h2, hd2, r1, r2, r3⟩ := ih (rsS t n i).2 (c + 1) (m + 1) h' _ (by omega) (by omega) e3 e4 (by omega) (fun z => by omega) (fun _ => hj)
        exact ⟨h2, hd2, r1, e2.tr r2, r3⟩
      · rw [if_neg hj]
        refine ⟨h', _, ?_, e2, e3⟩
        unfold P_X3_misplaced_L6
        by_cases hq : 64 ≤ c + 1
        · simp (disch := first | assumption | exact FX_setI ‹_› | exact FX_setI (FX_setI ‹_›) | exact FX_setI (FX_setI (FX_setI ‹_›)) | exact FX_setI (FX_setI (FX_setI (FX_setI ‹_›))) | omega) only [gr_0_0, gr_0_1, gr_0_2, gr_0_3, gr_0_4, gr_0_5, gr_0_6, gr_0_7, gr_1_0, gr_1_5, gr_1_7, gr_5_3, gr_5_9, gr_8_3, gr_8_9, gr_11_3, gr_11_9, gr_14_0, gr_14_1, gr_14_2, gr_18_0, gr_18_1, gr_18_2, gr_24_0, gr_24_1, gr_24_2, gr_24_3, gr_24_5, gr_24_6, gr_24_10, gr_24_11, gr_24_12, gr_24_15, al_2, al_3, al_4, al_7, al_10, al_13, al_15, al_16, al_17, al_19, al_20, al_21, al_22, al_23, al_25, al_26, al_27, al_28, al_29, al_30, al_31, al_32, al_33, al_34, as_2, as_3, as_4, as_7, as_10, as_13, as_15, as_16, as_17, as_19, as_20, as_21, as_22, as_23, as_25, as_26, as_27, as_28, as_29, as_30, as_31, as_32, as_33, as_34, gi_0, gi_1, gi_5, gi_8, gi_11, gi_14, gi_18, gi_24, pi_0, pi_1, pi_5, pi_8, pi_11, pi_14, pi_18, pi_24, rc_0, rc_1, rc_5, rc_8, rc_11, rc_14, rc_18, rc_24, ln_2, ln_3, ln_4, ln_7, ln_10, ln_13, ln_15, ln_16, ln_17, ln_19, ln_20, ln_21, ln_22, ln_23, ln_25, ln_26, ln_27, ln_28, ln_29, ln_30, ln_31, ln_32, ln_33, ln_34, ln_6, ln_9, ln_12, ciN, cvN, lt_eq, nn_none, nn_some, setI_1, setI_at, setI_R, upd2_at, I_add, I_addn, Int32.neg_neg, I_mul, I_ltI, I_leI, I_eqI, I_nat, if_true, if_false, reduceIte, reduceIteN, I_difn, bz_0, bz_1, nz_I, I_rem, I_div, I_sub, l4095, l32, l63, l0, l1, l2, l3, l4, l5, l6, l7, l8, l9, l10, l11, l12, l16, l24, l28, l31, l40, l48, l57, l64, l68, l78, l79, l99, l255, l2000, l2187, l1000000000]
          rfl
        · simp (disch := first | assumption | exact FX_setI ‹_› | exact FX_setI (FX_setI ‹_›) | exact FX_setI (FX_setI (FX_setI ‹_›)) | exact FX_setI (FX_setI (FX_setI (FX_setI ‹_›))) | omega) only [gr_0_0, gr_0_1, gr_0_2, gr_0_3, gr_0_4, gr_0_5, gr_0_6, gr_0_7, gr_1_0, gr_1_5, gr_1_7, gr_5_3, gr_5_9, gr_8_3, gr_8_9, gr_11_3, gr_11_9, gr_14_0, gr_14_1, gr_14_2, gr_18_0, gr_18_1, gr_18_2, gr_24_0, gr_24_1, gr_24_2, gr_24_3, gr_24_5, gr_24_6, gr_24_10, gr_24_11, gr_24_12, gr_24_15, al_2, al_3, al_4, al_7, al_10, al_13, al_15, al_16, al_17, al_19, al_20, al_21, al_22, al_23, al_25, al_26, al_27, al_28, al_29, al_30, al_31, al_32, al_33, al_34, as_2, as_3, as_4, as_7, as_10, as_13, as_15, as_16, as_17, as_19, as_20, as_21, as_22, as_23, as_25, as_26, as_27, as_28, as_29, as_30, as_31, as_32, as_33, as_34, gi_0, gi_1, gi_5, gi_8, gi_11, gi_14, gi_18, gi_24, pi_0, pi_1, pi_5, pi_8, pi_11, pi_14, pi_18, pi_24, rc_0, rc_1, rc_5, rc_8, rc_11, rc_14, rc_18, rc_24, ln_2, ln_3, ln_4, ln_7, ln_10, ln_13, ln_15, ln_16, ln_17, ln_19, ln_20, ln_21, ln_22, ln_23, ln_25, ln_26, ln_27, ln_28, ln_29, ln_30, ln_31, ln_32, ln_33, ln_34, ln_6, ln_9, ln_12, ciN, cvN, lt_eq, nn_none, nn_some, setI_1, setI_at, setI_R, upd2_at, I_add, I_addn, Int32.neg_neg, I_mul, I_ltI, I_leI, I_eqI, I_nat, if_true, if_false, reduceIte, reduceIteN, I_difn, bz_0, bz_1, nz_I, I_rem, I_div, I_sub, l4095, l32, l63, l0, l1, l2, l3, l4, l5, l6, l7, l8, l9, l10, l11, l12, l16, l24, l28, l31, l40, l48, l57, l64, l68, l78, l79, l99, l255, l2000, l2187, l1000000000, e4, k1']
          rfl
def LH2 : List Nat := [1, 3, 4, 8, 10]
def FH (h h' : Hp) : Prop := h.1 ≤ h'.1 ∧ FX h' ∧ (∀ q, q < h.1 → q ∉ LH2 → h'.2.1 q = h.2.1 q) ∧ (∀ q, q < 35 → q ≠ 9 → h'.2.2 q = h.2.2 q)
theorem FH.tr {h h1 h2 : Hp} (a : FH h h1) (b : FH h1 h2) : FH h h2 := ⟨Nat.le_trans a.1 b.1, b.2.1, fun q h1 h2 => (b.2.2.1 q (Nat.lt_of_lt_of_le h1 a.1) h2).trans (a.2.2.1 q h1 h2), fun q h1 h2 => (b.2.2.2 q h1 h2).trans (a.2.2.2 q h1 h2)⟩
theorem FH.fxa {A : List Nat} {h h1 : Hp} (F : FX h) (a : FxA A h h1) (hA : ∀ q, q ∈ A → q ∈ LH2) : FH h h1 := ⟨by rw [a.1]; exact Nat.le_refl _, a.fx F, fun q _ h2 => a.2.2 q (fun z => h2 (hA q z)), fun q _ _ => by rw [a.2.1]⟩
theorem FH.fo {h h1 : Hp} (a : FO h h1) : FH h h1 := ⟨a.1, a.2.1, fun q h1 h2 => a.2.2.1 q h1 (fun z => h2 (by rw [z]; decide)), a.2.2.2⟩
theorem TC_fo {t : Nat → Nat} {n : Nat} {hd : Int32} {h h' : Hp} (T : TC t n hd h) (a : FO h h') : TC t n hd h' := by
  have h35 := T.1.1
  have e1 := a.2.2.1 1 (by omega) (by decide)
  have e2 := a.2.2.1 2 (by omega) (by decide)
  exact ⟨a.2.1, by rw [e1]; exact T.2.1, fun i hi => by rw [e2]; exact T.2.2.1 i hi, by rw [e1]; exact T.2.2.2⟩
theorem c_run {t : Nat → Nat} {n : Nat} (hn : n ≤ 64) (ht : ∀ i, i < n → t i ≤ 255) : ∀ (k i c m : Nat) (h : Hp) (hd : Int32) (τ : Nat → Nat), n ≤ i + k → k < m → c ≤ i → i ≤ n → WF τ → TC t n hd h → h.2.1 1 2 = I i → CO h 8 τ → (i < n → sc1 t n (k + 1) i = none) →
    (∀ j, ph2 t n (k + 1) i τ = Sum.inl j → ∃ h', P_X5_readHouse_L38 m 0 (I c) h = some ((-2000) - I j, h') ∧ FH h h')
    ∧ (∀ τ', ph2 t n (k + 1) i τ = Sum.inr τ' → ∃ h1, P_X5_readHouse_L38 m 0 (I c) h = cv (P_X0_become 5 8 h1) (fun h5 => some (I (c + scn t n (k + 1) i), h5)) ∧ FH h h1 ∧ CO h1 8 τ' ∧ WF τ') := by
  have stop : ∀ (k i c m : Nat) (h : Hp) (hd : Int32) (τ : Nat → Nat), n ≤ i → 0 < m → i ≤ 64 → WF τ → TC t n hd h → h.2.1 1 2 = I i → CO h 8 τ →
    (∀ j, ph2 t n (k + 1) i τ = Sum.inl j → ∃ h', P_X5_readHouse_L38 m 0 (I c) h = some ((-2000) - I j, h') ∧ FH h h')
    ∧ (∀ τ', ph2 t n (k + 1) i τ = Sum.inr τ' → ∃ h1, P_X5_readHouse_L38 m 0 (I c) h = cv (P_X0_become 5 8 h1) (fun h5 => some (I (c + scn t n (k + 1) i), h5)) ∧ FH h h1 ∧ CO h1 8 τ' ∧ WF τ') := by
    intro k i c m h hd τ hi hm hi64 W T ha C
    obtain ⟨m, rfl⟩ : ∃ m', m = m' + 1 := ⟨m - 1, by omega⟩
    have F := T.1
    have k1 := T.2.1
    rw [ph2_succ, if_pos hi]
    refine ⟨fun j z => (by cases z), fun τ' z => ?_⟩
    injection z with z
    subst z
    refine ⟨h, ?_, ⟨Nat.le_refl _, F, fun _ _ _ => rfl, fun _ _ _ => rfl⟩, C, W⟩
    rw [scn_end hi]
    unfold P_X5_readHouse_L38
    rw [gr_0_0 F, gi_1 F, ha, gr_0_0 F, gi_1 F, k1, if_pos (by rw [I_leI (by omega) (by omega)]; exact hi), gr_0_1 F, gr_0_2 F, rc_5 F]
    rfl
  intro k
  induction k with
  | zero =>
    intro i c m h hd τ hk hm hc hin W T ha C hs
    exact stop 0 i c m h hd τ (by omega) hm (by omega) W T ha C
  | succ k ih =>
    intro i c m h hd τ hk hm hc hin W T ha C hs
    by_cases hi : n ≤ i
    · exact stop (k + 1) i c m h hd τ hi (by omega) (by omega) W T ha C
    · obtain ⟨m, rfl⟩ : ∃ m', m = m' + 1 := ⟨m - 1, by omega⟩
      have F := T.1
      have k1 := T.2.1
      obtain ⟨s1, s2⟩ := sc1_ok (hs (by omega))
      have ad := rs_adv s1
      obtain ⟨h1, e1, e2, e3, e4, e5⟩ := c_stmt hn ht T ha (by omega)
      have F1 := e3.1
      have C1 : CO h1 8 τ := CO_fx e2 (by simp [A3]) C
      have h3 : h1.2.1 1 3 = I (t i) := by
        rw [e3.2.2.2]
        unfold sg
        rw [if_pos (by omega)]
      obtain ⟨h2, b1, b2, b3⟩ := c_obeys W C1 F1 h3 (ht i (by omega)) (e5 s1) ad.2.1
      have a2 : h2.2.1 1 2 = I (rsS t n i).2 := by
        have := F1.1
        rw [b2.2.2.1 1 (by omega) (by decide)]
        exact e4
      rw [s1, bi_t] at e1
      have fh : FH h h2 := (FH.fxa F e2 (by simp [A3, LH2])).tr (FH.fo b2)
      rw [ph2_succ, if_neg hi]
      have step : P_X5_readHouse_L38 (m + 1) 0 (I c) h = if (bi (obd t n i τ).isSome : Int32) = 0 then some ((-2000) - I i, h2) else P_X5_readHouse_L38 m 0 (I (c + 1)) h2 := by
        conv => lhs; unfold P_X5_readHouse_L38
        rw [gr_0_0 F, gi_1 F, ha, gr_0_0 F, gi_1 F, k1, if_neg (by rw [I_leI (by omega) (by omega)]; omega), show (64 : Int32) = I 64 from rfl, if_neg (by rw [I_leI (by omega) (by omega)]; omega), gr_0_0 F, gi_1 F, ha, lt_eq, gr_0_0 F, rc_1 F, e1, ci_some, if_neg (show ¬ I 1 = 0 by decide), gr_0_2 F1, gr_0_0 F1, rc_8 F1, b1, ci_some, lt_eq, show I c + 1 = I (c + 1) from I_add c 1]
      rw [step]
      cases ho : obd t n i τ with
      | none =>
        refine ⟨fun j z => ?_, fun τ' z => by cases z⟩
        injection z with z
        subst z
        exact ⟨h2, if_pos (by rfl), fh⟩
      | some τ2 =>
        have W2 := obd_WF W ad.2.2.2.2 ho
        obtain ⟨r1, r2⟩ := ih (rsS t n i).2 (c + 1) m h2 _ τ2 (by omega) (by omega) (by omega) ad.2.2.2.1 W2 (TC_fo e3 b2) a2 (b3 τ2 ho) s2
        rw [if_neg (show ¬ (bi (some τ2).isSome : Int32) = 0 from (by decide : ¬ (I 1 : Int32) = 0)), scn_succ, if_neg hi]
        refine ⟨fun j z => ?_, fun τ' z => ?_⟩
        · obtain ⟨h', q1, q2⟩ := r1 j z
          exact ⟨h', q1, fh.tr q2⟩
        · obtain ⟨h', q1, q2, q3, q4⟩ := r2 τ' z
          refine ⟨h', ?_, fh.tr q2, q3, q4⟩
          rw [q1, show c + 1 + scn t n (k + 1) (rsS t n i).2 = c + (scn t n (k + 1) (rsS t n i).2 + 1) by omega]
