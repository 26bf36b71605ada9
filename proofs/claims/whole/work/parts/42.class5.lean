theorem I_ne9 {b : Nat} (hb : b < 2147483648) : ¬ I b = -I 9 := by
  intro z
  have := congrArg Int32.toInt z
  rw [I_int hb] at this
  have e9 : (-I 9).toInt = -9 := by decide
  omega
theorem c_cheapest_L {σ f : Nat → Nat} {h : Hp} (W : WF σ) (F : FX h) (C : CO h 5 σ) (L : LDS h σ f) : ∀ (k r n : Nat), r + k = σ 1 ^ σ 2 → k < n →
    P_X5_cheapest_L23 n 0 (oi (mnf (fun row => wsd σ (cw σ f row)) (fun row => cst σ (dgc σ row) (σ 2)) r)) (I r) h = some (oi (mnf (fun row => wsd σ (cw σ f row)) (fun row => cst σ (dgc σ row) (σ 2)) (σ 1 ^ σ 2)), h) := by
  have hb := W.rows.1
  have hcol := W.col
  have a4 := L.2.2.1
  intro k
  induction k with
  | zero =>
    intro r n hr hn
    cases n with
    | zero => omega
    | succ n =>
      have : r = σ 1 ^ σ 2 := by omega
      rw [this]
      unfold P_X5_cheapest_L23
      simp (disch := first | assumption | exact FX_setI ‹_› | exact FX_setI (FX_setI ‹_›) | exact FX_setI (FX_setI (FX_setI ‹_›)) | exact FX_setI (FX_setI (FX_setI (FX_setI ‹_›))) | omega) only [gr_0_0, gr_0_1, gr_0_2, gr_0_3, gr_0_4, gr_0_5, gr_0_6, gr_0_7, gr_1_0, gr_1_5, gr_1_7, gr_5_3, gr_5_9, gr_8_3, gr_8_9, gr_11_3, gr_11_9, gr_14_0, gr_14_1, gr_14_2, gr_18_0, gr_18_1, gr_18_2, gr_24_0, gr_24_1, gr_24_2, gr_24_3, gr_24_5, gr_24_6, gr_24_10, gr_24_11, gr_24_12, gr_24_15, al_2, al_3, al_4, al_7, al_10, al_13, al_15, al_16, al_17, al_19, al_20, al_21, al_22, al_23, al_25, al_26, al_27, al_28, al_29, al_30, al_31, al_32, al_33, al_34, as_2, as_3, as_4, as_7, as_10, as_13, as_15, as_16, as_17, as_19, as_20, as_21, as_22, as_23, as_25, as_26, as_27, as_28, as_29, as_30, as_31, as_32, as_33, as_34, gi_0, gi_1, gi_5, gi_8, gi_11, gi_14, gi_18, gi_24, pi_0, pi_1, pi_5, pi_8, pi_11, pi_14, pi_18, pi_24, rc_0, rc_1, rc_5, rc_8, rc_11, rc_14, rc_18, rc_24, ln_2, ln_3, ln_4, ln_7, ln_10, ln_13, ln_15, ln_16, ln_17, ln_19, ln_20, ln_21, ln_22, ln_23, ln_25, ln_26, ln_27, ln_28, ln_29, ln_30, ln_31, ln_32, ln_33, ln_34, ln_6, ln_9, ln_12, ci_some, cv_some, lt_eq, nn_none, nn_some, setI_1, setI_at, setI_R, upd2_at, I_add, I_addn, Int32.neg_neg, I_mul, I_ltI, I_leI, I_eqI, I_nat, if_true, if_false, reduceIte, reduceIteN, I_difn, bz_0, bz_1, nz_I, I_rem, I_div, I_sub, l4095, l32, l63, l0, l1, l2, l3, l4, l5, l6, l7, l8, l9, l10, l11, l12, l16, l24, l28, l31, l40, l48, l57, l64, l68, l78, l79, l99, l255, l2000, l2187, l1000000000, a4]
  | succ k ih =>
    intro r n hr hn
    cases n with
    | zero => omega
    | succ n =>
      have ht := c_endOf W F L (show r < σ 1 ^ σ 2 by omega)
      have hw := c_isWish (f := cw σ f r) F W C (fun i _ => by have := wy_lt W f (dgc σ r) (σ 2) i; unfold cw; omega)
      have hco := c_costOf W F C L (row := r) (by omega)
      have hcl := cst_le (P := σ 2) W (dgc_lt W r) (Nat.le_refl _)
      have h1 := ih (r + 1) n (by omega) (by omega)
      rw [mnf_succ] at h1
      have hbb : ∀ b, mnf (fun row => wsd σ (cw σ f row)) (fun row => cst σ (dgc σ row) (σ 2)) r = some b → b ≤ 126 := by
        intro b hb2
        rcases mnf_spec (fun row => wsd σ (cw σ f row)) (fun row => cst σ (dgc σ row) (σ 2)) r with ⟨x1, x2⟩ | ⟨b', x1, ⟨r', x2, x3, x4⟩, x5⟩
        · rw [x1] at hb2; cases hb2
        · rw [x1] at hb2
          cases hb2
          rw [← x4]
          exact cst_le W (dgc_lt W r') (Nat.le_refl _)
      generalize mnf (fun row => wsd σ (cw σ f row)) (fun row => cst σ (dgc σ row) (σ 2)) r = o at *
      unfold P_X5_cheapest_L23
      simp (disch := first | assumption | exact FX_setI ‹_› | exact FX_setI (FX_setI ‹_›) | exact FX_setI (FX_setI (FX_setI ‹_›)) | exact FX_setI (FX_setI (FX_setI (FX_setI ‹_›))) | omega) only [gr_0_0, gr_0_1, gr_0_2, gr_0_3, gr_0_4, gr_0_5, gr_0_6, gr_0_7, gr_1_0, gr_1_5, gr_1_7, gr_5_3, gr_5_9, gr_8_3, gr_8_9, gr_11_3, gr_11_9, gr_14_0, gr_14_1, gr_14_2, gr_18_0, gr_18_1, gr_18_2, gr_24_0, gr_24_1, gr_24_2, gr_24_3, gr_24_5, gr_24_6, gr_24_10, gr_24_11, gr_24_12, gr_24_15, al_2, al_3, al_4, al_7, al_10, al_13, al_15, al_16, al_17, al_19, al_20, al_21, al_22, al_23, al_25, al_26, al_27, al_28, al_29, al_30, al_31, al_32, al_33, al_34, as_2, as_3, as_4, as_7, as_10, as_13, as_15, as_16, as_17, as_19, as_20, as_21, as_22, as_23, as_25, as_26, as_27, as_28, as_29, as_30, as_31, as_32, as_33, as_34, gi_0, gi_1, gi_5, gi_8, gi_11, gi_14, gi_18, gi_24, pi_0, pi_1, pi_5, pi_8, pi_11, pi_14, pi_18, pi_24, rc_0, rc_1, rc_5, rc_8, rc_11, rc_14, rc_18, rc_24, ln_2, ln_3, ln_4, ln_7, ln_10, ln_13, ln_15, ln_16, ln_17, ln_19, ln_20, ln_21, ln_22, ln_23, ln_25, ln_26, ln_27, ln_28, ln_29, ln_30, ln_31, ln_32, ln_33, ln_34, ln_6, ln_9, ln_12, ci_some, cv_some, lt_eq, nn_none, nn_some, setI_1, setI_at, setI_R, upd2_at, I_add, I_addn, Int32.neg_neg, I_mul, I_ltI, I_leI, I_eqI, I_nat, if_true, if_false, reduceIte, reduceIteN, I_difn, bz_0, bz_1, nz_I, I_rem, I_div, I_sub, l4095, l32, l63, l0, l1, l2, l3, l4, l5, l6, l7, l8, l9, l10, l11, l12, l16, l24, l28, l31, l40, l48, l57, l64, l68, l78, l79, l99, l255, l2000, l2187, l1000000000, a4, ht, hw]
      cases he : wsd σ (cw σ f r)
      · rw [he] at h1
        simp only [Bool.false_eq_true, if_false, if_true] at h1 ⊢
        exact h1
      · rw [he] at h1
        simp only [if_true] at h1 ⊢
        rw [if_neg (by decide)]
        simp (disch := first | assumption | exact FX_setI ‹_› | exact FX_setI (FX_setI ‹_›) | exact FX_setI (FX_setI (FX_setI ‹_›)) | exact FX_setI (FX_setI (FX_setI (FX_setI ‹_›))) | omega) only [gr_0_0, gr_0_1, gr_0_2, gr_0_3, gr_0_4, gr_0_5, gr_0_6, gr_0_7, gr_1_0, gr_1_5, gr_1_7, gr_5_3, gr_5_9, gr_8_3, gr_8_9, gr_11_3, gr_11_9, gr_14_0, gr_14_1, gr_14_2, gr_18_0, gr_18_1, gr_18_2, gr_24_0, gr_24_1, gr_24_2, gr_24_3, gr_24_5, gr_24_6, gr_24_10, gr_24_11, gr_24_12, gr_24_15, al_2, al_3, al_4, al_7, al_10, al_13, al_15, al_16, al_17, al_19, al_20, al_21, al_22, al_23, al_25, al_26, al_27, al_28, al_29, al_30, al_31, al_32, al_33, al_34, as_2, as_3, as_4, as_7, as_10, as_13, as_15, as_16, as_17, as_19, as_20, as_21, as_22, as_23, as_25, as_26, as_27, as_28, as_29, as_30, as_31, as_32, as_33, as_34, gi_0, gi_1, gi_5, gi_8, gi_11, gi_14, gi_18, gi_24, pi_0, pi_1, pi_5, pi_8, pi_11, pi_14, pi_18, pi_24, rc_0, rc_1, rc_5, rc_8, rc_11, rc_14, rc_18, rc_24, ln_2, ln_3, ln_4, ln_7, ln_10, ln_13, ln_15, ln_16, ln_17, ln_19, ln_20, ln_21, ln_22, ln_23, ln_25, ln_26, ln_27, ln_28, ln_29, ln_30, ln_31, ln_32, ln_33, ln_34, ln_6, ln_9, ln_12, ci_some, cv_some, lt_eq, nn_none, nn_some, setI_1, setI_at, setI_R, upd2_at, I_add, I_addn, Int32.neg_neg, I_mul, I_ltI, I_leI, I_eqI, I_nat, if_true, if_false, reduceIte, reduceIteN, I_difn, bz_0, bz_1, nz_I, I_rem, I_div, I_sub, l4095, l32, l63, l0, l1, l2, l3, l4, l5, l6, l7, l8, l9, l10, l11, l12, l16, l24, l28, l31, l40, l48, l57, l64, l68, l78, l79, l99, l255, l2000, l2187, l1000000000, hco]
        cases o with
        | none =>
          unfold oi
          rw [if_pos rfl]
          exact h1
        | some b =>
          have hb126 := hbb b rfl
          have hn9 := I_ne9 (b := b) (by omega)
          unfold oi
          rw [if_neg hn9]
          by_cases hlt : b ≤ cst σ (dgc σ r) (σ 2)
          · have hnl : ¬ cst σ (dgc σ r) (σ 2) < b := by omega
            simp only [hnl, if_false] at h1
            simp (disch := first | assumption | exact FX_setI ‹_› | exact FX_setI (FX_setI ‹_›) | exact FX_setI (FX_setI (FX_setI ‹_›)) | exact FX_setI (FX_setI (FX_setI (FX_setI ‹_›))) | omega) only [gr_0_0, gr_0_1, gr_0_2, gr_0_3, gr_0_4, gr_0_5, gr_0_6, gr_0_7, gr_1_0, gr_1_5, gr_1_7, gr_5_3, gr_5_9, gr_8_3, gr_8_9, gr_11_3, gr_11_9, gr_14_0, gr_14_1, gr_14_2, gr_18_0, gr_18_1, gr_18_2, gr_24_0, gr_24_1, gr_24_2, gr_24_3, gr_24_5, gr_24_6, gr_24_10, gr_24_11, gr_24_12, gr_24_15, al_2, al_3, al_4, al_7, al_10, al_13, al_15, al_16, al_17, al_19, al_20, al_21, al_22, al_23, al_25, al_26, al_27, al_28, al_29, al_30, al_31, al_32, al_33, al_34, as_2, as_3, as_4, as_7, as_10, as_13, as_15, as_16, as_17, as_19, as_20, as_21, as_22, as_23, as_25, as_26, as_27, as_28, as_29, as_30, as_31, as_32, as_33, as_34, gi_0, gi_1, gi_5, gi_8, gi_11, gi_14, gi_18, gi_24, pi_0, pi_1, pi_5, pi_8, pi_11, pi_14, pi_18, pi_24, rc_0, rc_1, rc_5, rc_8, rc_11, rc_14, rc_18, rc_24, ln_2, ln_3, ln_4, ln_7, ln_10, ln_13, ln_15, ln_16, ln_17, ln_19, ln_20, ln_21, ln_22, ln_23, ln_25, ln_26, ln_27, ln_28, ln_29, ln_30, ln_31, ln_32, ln_33, ln_34, ln_6, ln_9, ln_12, ci_some, cv_some, lt_eq, nn_none, nn_some, setI_1, setI_at, setI_R, upd2_at, I_add, I_addn, Int32.neg_neg, I_mul, I_ltI, I_leI, I_eqI, I_nat, if_true, if_false, reduceIte, reduceIteN, I_difn, bz_0, bz_1, nz_I, I_rem, I_div, I_sub, l4095, l32, l63, l0, l1, l2, l3, l4, l5, l6, l7, l8, l9, l10, l11, l12, l16, l24, l28, l31, l40, l48, l57, l64, l68, l78, l79, l99, l255, l2000, l2187, l1000000000]
            exact h1
          · have hl2 : cst σ (dgc σ r) (σ 2) < b := by omega
            simp only [hl2, if_true] at h1
            simp (disch := first | assumption | exact FX_setI ‹_› | exact FX_setI (FX_setI ‹_›) | exact FX_setI (FX_setI (FX_setI ‹_›)) | exact FX_setI (FX_setI (FX_setI (FX_setI ‹_›))) | omega) only [gr_0_0, gr_0_1, gr_0_2, gr_0_3, gr_0_4, gr_0_5, gr_0_6, gr_0_7, gr_1_0, gr_1_5, gr_1_7, gr_5_3, gr_5_9, gr_8_3, gr_8_9, gr_11_3, gr_11_9, gr_14_0, gr_14_1, gr_14_2, gr_18_0, gr_18_1, gr_18_2, gr_24_0, gr_24_1, gr_24_2, gr_24_3, gr_24_5, gr_24_6, gr_24_10, gr_24_11, gr_24_12, gr_24_15, al_2, al_3, al_4, al_7, al_10, al_13, al_15, al_16, al_17, al_19, al_20, al_21, al_22, al_23, al_25, al_26, al_27, al_28, al_29, al_30, al_31, al_32, al_33, al_34, as_2, as_3, as_4, as_7, as_10, as_13, as_15, as_16, as_17, as_19, as_20, as_21, as_22, as_23, as_25, as_26, as_27, as_28, as_29, as_30, as_31, as_32, as_33, as_34, gi_0, gi_1, gi_5, gi_8, gi_11, gi_14, gi_18, gi_24, pi_0, pi_1, pi_5, pi_8, pi_11, pi_14, pi_18, pi_24, rc_0, rc_1, rc_5, rc_8, rc_11, rc_14, rc_18, rc_24, ln_2, ln_3, ln_4, ln_7, ln_10, ln_13, ln_15, ln_16, ln_17, ln_19, ln_20, ln_21, ln_22, ln_23, ln_25, ln_26, ln_27, ln_28, ln_29, ln_30, ln_31, ln_32, ln_33, ln_34, ln_6, ln_9, ln_12, ci_some, cv_some, lt_eq, nn_none, nn_some, setI_1, setI_at, setI_R, upd2_at, I_add, I_addn, Int32.neg_neg, I_mul, I_ltI, I_leI, I_eqI, I_nat, if_true, if_false, reduceIte, reduceIteN, I_difn, bz_0, bz_1, nz_I, I_rem, I_div, I_sub, l4095, l32, l63, l0, l1, l2, l3, l4, l5, l6, l7, l8, l9, l10, l11, l12, l16, l24, l28, l31, l40, l48, l57, l64, l68, l78, l79, l99, l255, l2000, l2187, l1000000000]
            exact h1
theorem c_cheapest {σ : Nat → Nat} {h : Hp} (W : WF σ) (F : FX h) (C : CO h 5 σ) : ∃ h', P_X5_cheapest 0 h = some (oi (mnf (fun row => wsd σ (cw σ (cur σ) row)) (fun row => cst σ (dgc σ row) (σ 2)) (σ 1 ^ σ 2)), h') ∧ FxA [14, 15, 16] h h' := by
  have hb := W.rows.1
  obtain ⟨h1, e1, e2, e3⟩ := c_lead W F C W.cur
  obtain ⟨F1, C1⟩ := FxA3 e2 (by simp) F C
  refine ⟨h1, ?_, e2⟩
  have k7' : h.2.1 5 7 = I (enc (cur σ)) := C.1.2.2.2.2.2.2.1
  unfold P_X5_cheapest
  simp (disch := first | assumption | exact FX_setI ‹_› | exact FX_setI (FX_setI ‹_›) | exact FX_setI (FX_setI (FX_setI ‹_›)) | exact FX_setI (FX_setI (FX_setI (FX_setI ‹_›))) | omega) only [gr_0_0, gr_0_1, gr_0_2, gr_0_3, gr_0_4, gr_0_5, gr_0_6, gr_0_7, gr_1_0, gr_1_5, gr_1_7, gr_5_3, gr_5_9, gr_8_3, gr_8_9, gr_11_3, gr_11_9, gr_14_0, gr_14_1, gr_14_2, gr_18_0, gr_18_1, gr_18_2, gr_24_0, gr_24_1, gr_24_2, gr_24_3, gr_24_5, gr_24_6, gr_24_10, gr_24_11, gr_24_12, gr_24_15, al_2, al_3, al_4, al_7, al_10, al_13, al_15, al_16, al_17, al_19, al_20, al_21, al_22, al_23, al_25, al_26, al_27, al_28, al_29, al_30, al_31, al_32, al_33, al_34, as_2, as_3, as_4, as_7, as_10, as_13, as_15, as_16, as_17, as_19, as_20, as_21, as_22, as_23, as_25, as_26, as_27, as_28, as_29, as_30, as_31, as_32, as_33, as_34, gi_0, gi_1, gi_5, gi_8, gi_11, gi_14, gi_18, gi_24, pi_0, pi_1, pi_5, pi_8, pi_11, pi_14, pi_18, pi_24, rc_0, rc_1, rc_5, rc_8, rc_11, rc_14, rc_18, rc_24, ln_2, ln_3, ln_4, ln_7, ln_10, ln_13, ln_15, ln_16, ln_17, ln_19, ln_20, ln_21, ln_22, ln_23, ln_25, ln_26, ln_27, ln_28, ln_29, ln_30, ln_31, ln_32, ln_33, ln_34, ln_6, ln_9, ln_12, ci_some, cv_some, lt_eq, nn_none, nn_some, setI_1, setI_at, setI_R, upd2_at, I_add, I_addn, Int32.neg_neg, I_mul, I_ltI, I_leI, I_eqI, I_nat, if_true, if_false, reduceIte, reduceIteN, I_difn, bz_0, bz_1, nz_I, I_rem, I_div, I_sub, l4095, l32, l63, l0, l1, l2, l3, l4, l5, l6, l7, l8, l9, l10, l11, l12, l16, l24, l28, l31, l40, l48, l57, l64, l68, l78, l79, l99, l255, l2000, l2187, l1000000000, k7', e1]
  exact c_cheapest_L W F1 C1 e3 (σ 1 ^ σ 2) 0 FU (by omega) (by have := FU_eq; omega)
theorem cst_congr {σ dg dh : Nat → Nat} {P : Nat} (h : ∀ p, p < P → dg p = dh p) : cst σ dg P = cst σ dh P := sm_congr P (fun p hp => by rw [h p hp])
theorem cheapest_eq {σ f : Nat → Nat} (W : WF σ) : mnf (fun row => wsd σ (cw σ f row)) (fun row => cst σ (dgc σ row) (σ 2)) (σ 1 ^ σ 2) = mnf (fun row => wsd σ (mw σ f row)) (fun row => cst σ (dgt (σ 1) row) (σ 2)) (σ 1 ^ σ 2) := by
  have hc : 0 < σ 1 := by have := W.col; omega
  exact mnf_perm (rv (σ 1) (σ 2)) (fun r hr => rv_lt hc _ _ hr) (fun r hr => rv_rv hc hr) (fun r hr => wsd_congr (cw_rv W hr)) (fun r hr => cst_congr (fun p hp => dgc_rv W hr hp))
/-- the class's key: goings first, then its own number -/
def ck (σ : Nat → Nat) (row : Nat) : Nat := sm (dgc σ row) (σ 2) * σ 1 ^ σ 2 + row
def mk1 (σ : Nat → Nat) (row : Nat) : Nat := sm (dgt (σ 1) row) (σ 2) * σ 1 ^ σ 2 + rv (σ 1) (σ 2) row
theorem ck_mk {σ : Nat → Nat} (W : WF σ) {row : Nat} (hr : row < σ 1 ^ σ 2) : ck σ row = mk1 σ (rv (σ 1) (σ 2) row) := by
  have hc : 0 < σ 1 := by have := W.col; omega
  unfold ck mk1
  rw [rv_rv hc hr, sm_congr (σ 2) (fun p hp => dgc_rv W hr hp)]
theorem sm_dg {c : Nat} {dg : Nat → Nat} (hd : ∀ p, dg p < c) (P : Nat) : sm dg P ≤ P * (c - 1) := sm_le P (fun p _ => by have := hd p; omega)
theorem key_div {g N r : Nat} (hr : r < N) : (g * N + r) / N = g := by
  rw [Nat.mul_comm, Nat.mul_add_div (by omega), Nat.div_eq_of_lt hr, Nat.add_zero]
theorem key_mod {g N r : Nat} (hr : r < N) : (g * N + r) % N = r := by
  rw [Nat.mul_comm, Nat.mul_add_mod, Nat.mod_eq_of_lt hr]
theorem key_lt {g N r g' r' : Nat} (hr : r < N) (hr' : r' < N) : (g * N + r < g' * N + r') ↔ (g < g' ∨ (g = g' ∧ r < r')) := by
  constructor
  · intro h
    rcases Nat.lt_trichotomy g g' with hg | hg | hg
    · exact Or.inl hg
    · subst hg; exact Or.inr ⟨rfl, by omega⟩
    · have : (g' + 1) * N ≤ g * N := Nat.mul_le_mul_right N hg
      rw [Nat.succ_mul] at this
      omega
  · intro h
    rcases h with h | ⟨h, h2⟩
    · have : (g + 1) * N ≤ g' * N := Nat.mul_le_mul_right N h
      rw [Nat.succ_mul] at this
      omega
    · subst h; omega
/-- best row and its goings, as the class holds them -/
def ob (N : Nat) : Option Nat → Int32
  | none => -I 1
  | some b => I (b % N)
def og (N : Nat) : Option Nat → Int32
  | none => I 0
  | some b => I (b / N)
theorem I_neg1 : -I 1 < I 0 := by decide
theorem c_fewestRow_L {σ f : Nat → Nat} {h : Hp} (W : WF σ) (F : FX h) (C : CO h 5 σ) (L : LDS h σ f) : ∀ (k r n : Nat), r + k = σ 1 ^ σ 2 → k < n →
    P_X5_fewestRow_L24 n 0 (ob (σ 1 ^ σ 2) (mnf (fun row => wsd σ (cw σ f row)) (ck σ) r)) (og (σ 1 ^ σ 2) (mnf (fun row => wsd σ (cw σ f row)) (ck σ) r)) (I r) h = some (ob (σ 1 ^ σ 2) (mnf (fun row => wsd σ (cw σ f row)) (ck σ) (σ 1 ^ σ 2)), h) := by
  have hb := W.rows
  have h7 := W.2.2.1
  have hcol := W.col
  have a4 := L.2.2.1
  intro k
  induction k with
  | zero =>
    intro r n hr hn
    cases n with
    | zero => omega
    | succ n =>
      have : r = σ 1 ^ σ 2 := by omega
      rw [this]
      unfold P_X5_fewestRow_L24
      simp (disch := first | assumption | exact FX_setI ‹_› | exact FX_setI (FX_setI ‹_›) | exact FX_setI (FX_setI (FX_setI ‹_›)) | exact FX_setI (FX_setI (FX_setI (FX_setI ‹_›))) | omega) only [gr_0_0, gr_0_1, gr_0_2, gr_0_3, gr_0_4, gr_0_5, gr_0_6, gr_0_7, gr_1_0, gr_1_5, gr_1_7, gr_5_3, gr_5_9, gr_8_3, gr_8_9, gr_11_3, gr_11_9, gr_14_0, gr_14_1, gr_14_2, gr_18_0, gr_18_1, gr_18_2, gr_24_0, gr_24_1, gr_24_2, gr_24_3, gr_24_5, gr_24_6, gr_24_10, gr_24_11, gr_24_12, gr_24_15, al_2, al_3, al_4, al_7, al_10, al_13, al_15, al_16, al_17, al_19, al_20, al_21, al_22, al_23, al_25, al_26, al_27, al_28, al_29, al_30, al_31, al_32, al_33, al_34, as_2, as_3, as_4, as_7, as_10, as_13, as_15, as_16, as_17, as_19, as_20, as_21, as_22, as_23, as_25, as_26, as_27, as_28, as_29, as_30, as_31, as_32, as_33, as_34, gi_0, gi_1, gi_5, gi_8, gi_11, gi_14, gi_18, gi_24, pi_0, pi_1, pi_5, pi_8, pi_11, pi_14, pi_18, pi_24, rc_0, rc_1, rc_5, rc_8, rc_11, rc_14, rc_18, rc_24, ln_2, ln_3, ln_4, ln_7, ln_10, ln_13, ln_15, ln_16, ln_17, ln_19, ln_20, ln_21, ln_22, ln_23, ln_25, ln_26, ln_27, ln_28, ln_29, ln_30, ln_31, ln_32, ln_33, ln_34, ln_6, ln_9, ln_12, ci_some, cv_some, lt_eq, nn_none, nn_some, setI_1, setI_at, setI_R, upd2_at, I_add, I_addn, Int32.neg_neg, I_mul, I_ltI, I_leI, I_eqI, I_nat, if_true, if_false, reduceIte, reduceIteN, I_difn, bz_0, bz_1, nz_I, I_rem, I_div, I_sub, l4095, l32, l63, l0, l1, l2, l3, l4, l5, l6, l7, l8, l9, l10, l11, l12, l16, l24, l28, l31, l40, l48, l57, l64, l68, l78, l79, l99, l255, l2000, l2187, l1000000000, a4]
  | succ k ih =>
    intro r n hr hn
    cases n with
    | zero => omega
    | succ n =>
      have hrN : r < σ 1 ^ σ 2 := by omega
      have ht := c_endOf W F L hrN
      have hw := c_isWish (f := cw σ f r) F W C (fun i _ => by have := wy_lt W f (dgc σ r) (σ 2) i; unfold cw; omega)
      have hgo := c_goingsIn W F L (row := r) (by omega)
      have hgl := sm_dg (dgc_lt W r) (σ 2)
      have hg14 : sm (dgc σ r) (σ 2) ≤ 14 := Nat.le_trans hgl (Nat.mul_le_mul h7 (show σ 1 - 1 ≤ 2 by omega))
      have h1 := ih (r + 1) n (by omega) (by omega)
      rw [mnf_succ] at h1
      have hbb : ∀ b, mnf (fun row => wsd σ (cw σ f row)) (ck σ) r = some b → ∃ r', r' < r ∧ b = ck σ r' := by
        intro b hb2
        rcases mnf_spec (fun row => wsd σ (cw σ f row)) (ck σ) r with ⟨x1, x2⟩ | ⟨b', x1, ⟨r', x2, x3, x4⟩, x5⟩
        · rw [x1] at hb2; cases hb2
        · rw [x1] at hb2
          cases hb2
          exact ⟨r', x2, x4.symm⟩
      generalize mnf (fun row => wsd σ (cw σ f row)) (ck σ) r = o at *
      unfold P_X5_fewestRow_L24
      simp (disch := first | assumption | exact FX_setI ‹_› | exact FX_setI (FX_setI ‹_›) | exact FX_setI (FX_setI (FX_setI ‹_›)) | exact FX_setI (FX_setI (FX_setI (FX_setI ‹_›))) | omega) only [gr_0_0, gr_0_1, gr_0_2, gr_0_3, gr_0_4, gr_0_5, gr_0_6, gr_0_7, gr_1_0, gr_1_5, gr_1_7, gr_5_3, gr_5_9, gr_8_3, gr_8_9, gr_11_3, gr_11_9, gr_14_0, gr_14_1, gr_14_2, gr_18_0, gr_18_1, gr_18_2, gr_24_0, gr_24_1, gr_24_2, gr_24_3, gr_24_5, gr_24_6, gr_24_10, gr_24_11, gr_24_12, gr_24_15, al_2, al_3, al_4, al_7, al_10, al_13, al_15, al_16, al_17, al_19, al_20, al_21, al_22, al_23, al_25, al_26, al_27, al_28, al_29, al_30, al_31, al_32, al_33, al_34, as_2, as_3, as_4, as_7, as_10, as_13, as_15, as_16, as_17, as_19, as_20, as_21, as_22, as_23, as_25, as_26, as_27, as_28, as_29, as_30, as_31, as_32, as_33, as_34, gi_0, gi_1, gi_5, gi_8, gi_11, gi_14, gi_18, gi_24, pi_0, pi_1, pi_5, pi_8, pi_11, pi_14, pi_18, pi_24, rc_0, rc_1, rc_5, rc_8, rc_11, rc_14, rc_18, rc_24, ln_2, ln_3, ln_4, ln_7, ln_10, ln_13, ln_15, ln_16, ln_17, ln_19, ln_20, ln_21, ln_22, ln_23, ln_25, ln_26, ln_27, ln_28, ln_29, ln_30, ln_31, ln_32, ln_33, ln_34, ln_6, ln_9, ln_12, ci_some, cv_some, lt_eq, nn_none, nn_some, setI_1, setI_at, setI_R, upd2_at, I_add, I_addn, Int32.neg_neg, I_mul, I_ltI, I_leI, I_eqI, I_nat, if_true, if_false, reduceIte, reduceIteN, I_difn, bz_0, bz_1, nz_I, I_rem, I_div, I_sub, l4095, l32, l63, l0, l1, l2, l3, l4, l5, l6, l7, l8, l9, l10, l11, l12, l16, l24, l28, l31, l40, l48, l57, l64, l68, l78, l79, l99, l255, l2000, l2187, l1000000000, a4, ht, hw]
      cases he : wsd σ (cw σ f r)
      · rw [he] at h1
        simp only [Bool.false_eq_true, if_false, if_true] at h1 ⊢
        exact h1
      · rw [he] at h1
        simp only [if_true] at h1 ⊢
        rw [if_neg (by decide)]
        simp (disch := first | assumption | exact FX_setI ‹_› | exact FX_setI (FX_setI ‹_›) | exact FX_setI (FX_setI (FX_setI ‹_›)) | exact FX_setI (FX_setI (FX_setI (FX_setI ‹_›))) | omega) only [gr_0_0, gr_0_1, gr_0_2, gr_0_3, gr_0_4, gr_0_5, gr_0_6, gr_0_7, gr_1_0, gr_1_5, gr_1_7, gr_5_3, gr_5_9, gr_8_3, gr_8_9, gr_11_3, gr_11_9, gr_14_0, gr_14_1, gr_14_2, gr_18_0, gr_18_1, gr_18_2, gr_24_0, gr_24_1, gr_24_2, gr_24_3, gr_24_5, gr_24_6, gr_24_10, gr_24_11, gr_24_12, gr_24_15, al_2, al_3, al_4, al_7, al_10, al_13, al_15, al_16, al_17, al_19, al_20, al_21, al_22, al_23, al_25, al_26, al_27, al_28, al_29, al_30, al_31, al_32, al_33, al_34, as_2, as_3, as_4, as_7, as_10, as_13, as_15, as_16, as_17, as_19, as_20, as_21, as_22, as_23, as_25, as_26, as_27, as_28, as_29, as_30, as_31, as_32, as_33, as_34, gi_0, gi_1, gi_5, gi_8, gi_11, gi_14, gi_18, gi_24, pi_0, pi_1, pi_5, pi_8, pi_11, pi_14, pi_18, pi_24, rc_0, rc_1, rc_5, rc_8, rc_11, rc_14, rc_18, rc_24, ln_2, ln_3, ln_4, ln_7, ln_10, ln_13, ln_15, ln_16, ln_17, ln_19, ln_20, ln_21, ln_22, ln_23, ln_25, ln_26, ln_27, ln_28, ln_29, ln_30, ln_31, ln_32, ln_33, ln_34, ln_6, ln_9, ln_12, ci_some, cv_some, lt_eq, nn_none, nn_some, setI_1, setI_at, setI_R, upd2_at, I_add, I_addn, Int32.neg_neg, I_mul, I_ltI, I_leI, I_eqI, I_nat, if_true, if_false, reduceIte, reduceIteN, I_difn, bz_0, bz_1, nz_I, I_rem, I_div, I_sub, l4095, l32, l63, l0, l1, l2, l3, l4, l5, l6, l7, l8, l9, l10, l11, l12, l16, l24, l28, l31, l40, l48, l57, l64, l68, l78, l79, l99, l255, l2000, l2187, l1000000000, hgo]
        cases o with
        | none =>
          unfold ob og
          rw [if_pos I_neg1]
          unfold ob og ck at h1
          simp only [key_div hrN, key_mod hrN] at h1
          exact h1
        | some b =>
          obtain ⟨r', hr', rfl⟩ := hbb b rfl
          have hr'N : r' < σ 1 ^ σ 2 := by omega
          have hg14' : sm (dgc σ r') (σ 2) ≤ 14 := Nat.le_trans (sm_dg (dgc_lt W r') (σ 2)) (Nat.mul_le_mul h7 (show σ 1 - 1 ≤ 2 by omega))
          have hkl := key_lt (g := sm (dgc σ r) (σ 2)) (g' := sm (dgc σ r') (σ 2)) hrN hr'N
          unfold ob og
          unfold ob og ck at h1
          unfold ck
          simp only [key_div hrN, key_mod hrN, key_div hr'N, key_mod hr'N] at h1 ⊢
          simp (disch := first | assumption | exact FX_setI ‹_› | exact FX_setI (FX_setI ‹_›) | exact FX_setI (FX_setI (FX_setI ‹_›)) | exact FX_setI (FX_setI (FX_setI (FX_setI ‹_›))) | omega) only [gr_0_0, gr_0_1, gr_0_2, gr_0_3, gr_0_4, gr_0_5, gr_0_6, gr_0_7, gr_1_0, gr_1_5, gr_1_7, gr_5_3, gr_5_9, gr_8_3, gr_8_9, gr_11_3, gr_11_9, gr_14_0, gr_14_1, gr_14_2, gr_18_0, gr_18_1, gr_18_2, gr_24_0, gr_24_1, gr_24_2, gr_24_3, gr_24_5, gr_24_6, gr_24_10, gr_24_11, gr_24_12, gr_24_15, al_2, al_3, al_4, al_7, al_10, al_13, al_15, al_16, al_17, al_19, al_20, al_21, al_22, al_23, al_25, al_26, al_27, al_28, al_29, al_30, al_31, al_32, al_33, al_34, as_2, as_3, as_4, as_7, as_10, as_13, as_15, as_16, as_17, as_19, as_20, as_21, as_22, as_23, as_25, as_26, as_27, as_28, as_29, as_30, as_31, as_32, as_33, as_34, gi_0, gi_1, gi_5, gi_8, gi_11, gi_14, gi_18, gi_24, pi_0, pi_1, pi_5, pi_8, pi_11, pi_14, pi_18, pi_24, rc_0, rc_1, rc_5, rc_8, rc_11, rc_14, rc_18, rc_24, ln_2, ln_3, ln_4, ln_7, ln_10, ln_13, ln_15, ln_16, ln_17, ln_19, ln_20, ln_21, ln_22, ln_23, ln_25, ln_26, ln_27, ln_28, ln_29, ln_30, ln_31, ln_32, ln_33, ln_34, ln_6, ln_9, ln_12, ci_some, cv_some, lt_eq, nn_none, nn_some, setI_1, setI_at, setI_R, upd2_at, I_add, I_addn, Int32.neg_neg, I_mul, I_ltI, I_leI, I_eqI, I_nat, if_true, if_false, reduceIte, reduceIteN, I_difn, bz_0, bz_1, nz_I, I_rem, I_div, I_sub, l4095, l32, l63, l0, l1, l2, l3, l4, l5, l6, l7, l8, l9, l10, l11, l12, l16, l24, l28, l31, l40, l48, l57, l64, l68, l78, l79, l99, l255, l2000, l2187, l1000000000]
          by_cases hlt : sm (dgc σ r') (σ 2) ≤ sm (dgc σ r) (σ 2)
          · have hnl : ¬ (sm (dgc σ r) (σ 2) * σ 1 ^ σ 2 + r < sm (dgc σ r') (σ 2) * σ 1 ^ σ 2 + r') := fun z => by
              rcases hkl.mp z with q | q <;> omega
            simp only [hnl, if_false, key_div hr'N, key_mod hr'N] at h1
            rw [if_pos hlt]
            exact h1
          · have hl2 : sm (dgc σ r) (σ 2) * σ 1 ^ σ 2 + r < sm (dgc σ r') (σ 2) * σ 1 ^ σ 2 + r' := hkl.mpr (Or.inl (by omega))
            simp only [hl2, if_true, key_div hrN, key_mod hrN] at h1
            rw [if_neg hlt]
            exact h1
theorem c_fewestRow {σ : Nat → Nat} {h : Hp} (W : WF σ) (F : FX h) (C : CO h 5 σ) : ∃ h', P_X5_fewestRow 0 h = some (ob (σ 1 ^ σ 2) (mnf (fun row => wsd σ (cw σ (cur σ) row)) (ck σ) (σ 1 ^ σ 2)), h') ∧ FxA [14, 15, 16] h h' ∧ LDS h' σ (cur σ) := by
  have hb := W.rows.1
  obtain ⟨h1, e1, e2, e3⟩ := c_lead W F C W.cur
  obtain ⟨F1, C1⟩ := FxA3 e2 (by simp) F C
  refine ⟨h1, ?_, e2, e3⟩
  have k7' : h.2.1 5 7 = I (enc (cur σ)) := C.1.2.2.2.2.2.2.1
  have hx := c_fewestRow_L W F1 C1 e3 (σ 1 ^ σ 2) 0 FU (by omega) (by have := FU_eq; omega)
  unfold P_X5_fewestRow
  simp (disch := first | assumption | exact FX_setI ‹_› | exact FX_setI (FX_setI ‹_›) | exact FX_setI (FX_setI (FX_setI ‹_›)) | exact FX_setI (FX_setI (FX_setI (FX_setI ‹_›))) | omega) only [gr_0_0, gr_0_1, gr_0_2, gr_0_3, gr_0_4, gr_0_5, gr_0_6, gr_0_7, gr_1_0, gr_1_5, gr_1_7, gr_5_3, gr_5_9, gr_8_3, gr_8_9, gr_11_3, gr_11_9, gr_14_0, gr_14_1, gr_14_2, gr_18_0, gr_18_1, gr_18_2, gr_24_0, gr_24_1, gr_24_2, gr_24_3, gr_24_5, gr_24_6, gr_24_10, gr_24_11, gr_24_12, gr_24_15, al_2, al_3, al_4, al_7, al_10, al_13, al_15, al_16, al_17, al_19, al_20, al_21, al_22, al_23, al_25, al_26, al_27, al_28, al_29, al_30, al_31, al_32, al_33, al_34, as_2, as_3, as_4, as_7, as_10, as_13, as_15, as_16, as_17, as_19, as_20, as_21, as_22, as_23, as_25, as_26, as_27, as_28, as_29, as_30, as_31, as_32, as_33, as_34, gi_0, gi_1, gi_5, gi_8, gi_11, gi_14, gi_18, gi_24, pi_0, pi_1, pi_5, pi_8, pi_11, pi_14, pi_18, pi_24, rc_0, rc_1, rc_5, rc_8, rc_11, rc_14, rc_18, rc_24, ln_2, ln_3, ln_4, ln_7, ln_10, ln_13, ln_15, ln_16, ln_17, ln_19, ln_20, ln_21, ln_22, ln_23, ln_25, ln_26, ln_27, ln_28, ln_29, ln_30, ln_31, ln_32, ln_33, ln_34, ln_6, ln_9, ln_12, ci_some, cv_some, lt_eq, nn_none, nn_some, setI_1, setI_at, setI_R, upd2_at, I_add, I_addn, Int32.neg_neg, I_mul, I_ltI, I_leI, I_eqI, I_nat, if_true, if_false, reduceIte, reduceIteN, I_difn, bz_0, bz_1, nz_I, I_rem, I_div, I_sub, l4095, l32, l63, l0, l1, l2, l3, l4, l5, l6, l7, l8, l9, l10, l11, l12, l16, l24, l28, l31, l40, l48, l57, l64, l68, l78, l79, l99, l255, l2000, l2187, l1000000000, k7', e1]
  exact hx
/-- the answer of fewest and of how, from the least key -/
def afew (N : Nat) : Option Nat → Int32
  | none => -I 9
  | some b => I (b / N)
def ahow (σ : Nat → Nat) (p : Nat) : Option Nat → Int32
  | none => -I 9
  | some b => I (dgc σ (b % σ 1 ^ σ 2) p)
theorem mnf_mem {G : Nat → Bool} {K : Nat → Nat} {n b : Nat} (h : mnf G K n = some b) : ∃ r, r < n ∧ G r = true ∧ K r = b := by
  rcases mnf_spec G K n with ⟨x1, x2⟩ | ⟨b', x1, x2, x5⟩
  · rw [x1] at h; cases h
  · rw [x1] at h; cases h; exact x2
theorem c_fewest {σ : Nat → Nat} {h : Hp} (W : WF σ) (F : FX h) (C : CO h 5 σ) : ∃ h', P_X5_fewest 0 h = some (afew (σ 1 ^ σ 2) (mnf (fun row => wsd σ (cw σ (cur σ) row)) (ck σ) (σ 1 ^ σ 2)), h') ∧ FxA [14, 15, 16] h h' := by
  have hb := W.rows.1
  obtain ⟨h1, e1, e2, e3⟩ := c_fewestRow W F C
  obtain ⟨F1, C1⟩ := FxA3 e2 (by simp) F C
  refine ⟨h1, ?_, e2⟩
  unfold P_X5_fewest
  simp (disch := first | assumption | exact FX_setI ‹_› | exact FX_setI (FX_setI ‹_›) | exact FX_setI (FX_setI (FX_setI ‹_›)) | exact FX_setI (FX_setI (FX_setI (FX_setI ‹_›))) | omega) only [gr_0_0, gr_0_1, gr_0_2, gr_0_3, gr_0_4, gr_0_5, gr_0_6, gr_0_7, gr_1_0, gr_1_5, gr_1_7, gr_5_3, gr_5_9, gr_8_3, gr_8_9, gr_11_3, gr_11_9, gr_14_0, gr_14_1, gr_14_2, gr_18_0, gr_18_1, gr_18_2, gr_24_0, gr_24_1, gr_24_2, gr_24_3, gr_24_5, gr_24_6, gr_24_10, gr_24_11, gr_24_12, gr_24_15, al_2, al_3, al_4, al_7, al_10, al_13, al_15, al_16, al_17, al_19, al_20, al_21, al_22, al_23, al_25, al_26, al_27, al_28, al_29, al_30, al_31, al_32, al_33, al_34, as_2, as_3, as_4, as_7, as_10, as_13, as_15, as_16, as_17, as_19, as_20, as_21, as_22, as_23, as_25, as_26, as_27, as_28, as_29, as_30, as_31, as_32, as_33, as_34, gi_0, gi_1, gi_5, gi_8, gi_11, gi_14, gi_18, gi_24, pi_0, pi_1, pi_5, pi_8, pi_11, pi_14, pi_18, pi_24, rc_0, rc_1, rc_5, rc_8, rc_11, rc_14, rc_18, rc_24, ln_2, ln_3, ln_4, ln_7, ln_10, ln_13, ln_15, ln_16, ln_17, ln_19, ln_20, ln_21, ln_22, ln_23, ln_25, ln_26, ln_27, ln_28, ln_29, ln_30, ln_31, ln_32, ln_33, ln_34, ln_6, ln_9, ln_12, ci_some, cv_some, lt_eq, nn_none, nn_some, setI_1, setI_at, setI_R, upd2_at, I_add, I_addn, Int32.neg_neg, I_mul, I_ltI, I_leI, I_eqI, I_nat, if_true, if_false, reduceIte, reduceIteN, I_difn, bz_0, bz_1, nz_I, I_rem, I_div, I_sub, l4095, l32, l63, l0, l1, l2, l3, l4, l5, l6, l7, l8, l9, l10, l11, l12, l16, l24, l28, l31, l40, l48, l57, l64, l68, l78, l79, l99, l255, l2000, l2187, l1000000000, e1]
  cases ho : mnf (fun row => wsd σ (cw σ (cur σ) row)) (ck σ) (σ 1 ^ σ 2) with
  | none =>
    unfold ob afew
    rw [if_neg (show ¬ I 0 ≤ -I 1 by decide)]
  | some b =>
    obtain ⟨r, hr, -, rfl⟩ := mnf_mem ho
    have hg := c_goingsIn W F1 e3 (row := r) (by omega)
    unfold ob afew ck
    simp only [key_div hr, key_mod hr]
    simp (disch := first | assumption | exact FX_setI ‹_› | exact FX_setI (FX_setI ‹_›) | exact FX_setI (FX_setI (FX_setI ‹_›)) | exact FX_setI (FX_setI (FX_setI (FX_setI ‹_›))) | omega) only [gr_0_0, gr_0_1, gr_0_2, gr_0_3, gr_0_4, gr_0_5, gr_0_6, gr_0_7, gr_1_0, gr_1_5, gr_1_7, gr_5_3, gr_5_9, gr_8_3, gr_8_9, gr_11_3, gr_11_9, gr_14_0, gr_14_1, gr_14_2, gr_18_0, gr_18_1, gr_18_2, gr_24_0, gr_24_1, gr_24_2, gr_24_3, gr_24_5, gr_24_6, gr_24_10, gr_24_11, gr_24_12, gr_24_15, al_2, al_3, al_4, al_7, al_10, al_13, al_15, al_16, al_17, al_19, al_20, al_21, al_22, al_23, al_25, al_26, al_27, al_28, al_29, al_30, al_31, al_32, al_33, al_34, as_2, as_3, as_4, as_7, as_10, as_13, as_15, as_16, as_17, as_19, as_20, as_21, as_22, as_23, as_25, as_26, as_27, as_28, as_29, as_30, as_31, as_32, as_33, as_34, gi_0, gi_1, gi_5, gi_8, gi_11, gi_14, gi_18, gi_24, pi_0, pi_1, pi_5, pi_8, pi_11, pi_14, pi_18, pi_24, rc_0, rc_1, rc_5, rc_8, rc_11, rc_14, rc_18, rc_24, ln_2, ln_3, ln_4, ln_7, ln_10, ln_13, ln_15, ln_16, ln_17, ln_19, ln_20, ln_21, ln_22, ln_23, ln_25, ln_26, ln_27, ln_28, ln_29, ln_30, ln_31, ln_32, ln_33, ln_34, ln_6, ln_9, ln_12, ci_some, cv_some, lt_eq, nn_none, nn_some, setI_1, setI_at, setI_R, upd2_at, I_add, I_addn, Int32.neg_neg, I_mul, I_ltI, I_leI, I_eqI, I_nat, if_true, if_false, reduceIte, reduceIteN, I_difn, bz_0, bz_1, nz_I, I_rem, I_div, I_sub, l4095, l32, l63, l0, l1, l2, l3, l4, l5, l6, l7, l8, l9, l10, l11, l12, l16, l24, l28, l31, l40, l48, l57, l64, l68, l78, l79, l99, l255, l2000, l2187, l1000000000, hg]
theorem c_how {σ : Nat → Nat} {h : Hp} (W : WF σ) (F : FX h) (C : CO h 5 σ) {p : Nat} (hp : p < σ 2) : ∃ h', P_X5_how 0 (I p) h = some (ahow σ p (mnf (fun row => wsd σ (cw σ (cur σ) row)) (ck σ) (σ 1 ^ σ 2)), h') ∧ FxA [14, 15, 16] h h' := by
  have hb := W.rows.1
  obtain ⟨q, hq, -⟩ := c_goerOf F W C hp
  obtain ⟨h1, e1, e2, e3⟩ := c_fewestRow W F C
  obtain ⟨F1, C1⟩ := FxA3 e2 (by simp) F C
  refine ⟨h1, ?_, e2⟩
  unfold P_X5_how
  simp (disch := first | assumption | exact FX_setI ‹_› | exact FX_setI (FX_setI ‹_›) | exact FX_setI (FX_setI (FX_setI ‹_›)) | exact FX_setI (FX_setI (FX_setI (FX_setI ‹_›))) | omega) only [gr_0_0, gr_0_1, gr_0_2, gr_0_3, gr_0_4, gr_0_5, gr_0_6, gr_0_7, gr_1_0, gr_1_5, gr_1_7, gr_5_3, gr_5_9, gr_8_3, gr_8_9, gr_11_3, gr_11_9, gr_14_0, gr_14_1, gr_14_2, gr_18_0, gr_18_1, gr_18_2, gr_24_0, gr_24_1, gr_24_2, gr_24_3, gr_24_5, gr_24_6, gr_24_10, gr_24_11, gr_24_12, gr_24_15, al_2, al_3, al_4, al_7, al_10, al_13, al_15, al_16, al_17, al_19, al_20, al_21, al_22, al_23, al_25, al_26, al_27, al_28, al_29, al_30, al_31, al_32, al_33, al_34, as_2, as_3, as_4, as_7, as_10, as_13, as_15, as_16, as_17, as_19, as_20, as_21, as_22, as_23, as_25, as_26, as_27, as_28, as_29, as_30, as_31, as_32, as_33, as_34, gi_0, gi_1, gi_5, gi_8, gi_11, gi_14, gi_18, gi_24, pi_0, pi_1, pi_5, pi_8, pi_11, pi_14, pi_18, pi_24, rc_0, rc_1, rc_5, rc_8, rc_11, rc_14, rc_18, rc_24, ln_2, ln_3, ln_4, ln_7, ln_10, ln_13, ln_15, ln_16, ln_17, ln_19, ln_20, ln_21, ln_22, ln_23, ln_25, ln_26, ln_27, ln_28, ln_29, ln_30, ln_31, ln_32, ln_33, ln_34, ln_6, ln_9, ln_12, ci_some, cv_some, lt_eq, nn_none, nn_some, setI_1, setI_at, setI_R, upd2_at, I_add, I_addn, Int32.neg_neg, I_mul, I_ltI, I_leI, I_eqI, I_nat, if_true, if_false, reduceIte, reduceIteN, I_difn, bz_0, bz_1, nz_I, I_rem, I_div, I_sub, l4095, l32, l63, l0, l1, l2, l3, l4, l5, l6, l7, l8, l9, l10, l11, l12, l16, l24, l28, l31, l40, l48, l57, l64, l68, l78, l79, l99, l255, l2000, l2187, l1000000000, hq, e1]
  cases ho : mnf (fun row => wsd σ (cw σ (cur σ) row)) (ck σ) (σ 1 ^ σ 2) with
  | none =>
    unfold ob ahow
    rw [if_neg (show ¬ I 0 ≤ -I 1 by decide)]
  | some b =>
    obtain ⟨r, hr, -, rfl⟩ := mnf_mem ho
    have ht := c_timesIn W F1 e3 (row := r) (by omega) hp
    unfold ob ahow ck
    simp only [key_mod hr]
    simp (disch := first | assumption | exact FX_setI ‹_› | exact FX_setI (FX_setI ‹_›) | exact FX_setI (FX_setI (FX_setI ‹_›)) | exact FX_setI (FX_setI (FX_setI (FX_setI ‹_›))) | omega) only [gr_0_0, gr_0_1, gr_0_2, gr_0_3, gr_0_4, gr_0_5, gr_0_6, gr_0_7, gr_1_0, gr_1_5, gr_1_7, gr_5_3, gr_5_9, gr_8_3, gr_8_9, gr_11_3, gr_11_9, gr_14_0, gr_14_1, gr_14_2, gr_18_0, gr_18_1, gr_18_2, gr_24_0, gr_24_1, gr_24_2, gr_24_3, gr_24_5, gr_24_6, gr_24_10, gr_24_11, gr_24_12, gr_24_15, al_2, al_3, al_4, al_7, al_10, al_13, al_15, al_16, al_17, al_19, al_20, al_21, al_22, al_23, al_25, al_26, al_27, al_28, al_29, al_30, al_31, al_32, al_33, al_34, as_2, as_3, as_4, as_7, as_10, as_13, as_15, as_16, as_17, as_19, as_20, as_21, as_22, as_23, as_25, as_26, as_27, as_28, as_29, as_30, as_31, as_32, as_33, as_34, gi_0, gi_1, gi_5, gi_8, gi_11, gi_14, gi_18, gi_24, pi_0, pi_1, pi_5, pi_8, pi_11, pi_14, pi_18, pi_24, rc_0, rc_1, rc_5, rc_8, rc_11, rc_14, rc_18, rc_24, ln_2, ln_3, ln_4, ln_7, ln_10, ln_13, ln_15, ln_16, ln_17, ln_19, ln_20, ln_21, ln_22, ln_23, ln_25, ln_26, ln_27, ln_28, ln_29, ln_30, ln_31, ln_32, ln_33, ln_34, ln_6, ln_9, ln_12, ci_some, cv_some, lt_eq, nn_none, nn_some, setI_1, setI_at, setI_R, upd2_at, I_add, I_addn, Int32.neg_neg, I_mul, I_ltI, I_leI, I_eqI, I_nat, if_true, if_false, reduceIte, reduceIteN, I_difn, bz_0, bz_1, nz_I, I_rem, I_div, I_sub, l4095, l32, l63, l0, l1, l2, l3, l4, l5, l6, l7, l8, l9, l10, l11, l12, l16, l24, l28, l31, l40, l48, l57, l64, l68, l78, l79, l99, l255, l2000, l2187, l1000000000, ht]
theorem few_eq {σ f : Nat → Nat} (W : WF σ) : mnf (fun row => wsd σ (cw σ f row)) (ck σ) (σ 1 ^ σ 2) = mnf (fun row => wsd σ (mw σ f row)) (mk1 σ) (σ 1 ^ σ 2) := by
  have hc : 0 < σ 1 := by have := W.col; omega
  exact mnf_perm (rv (σ 1) (σ 2)) (fun r hr => rv_lt hc _ _ hr) (fun r hr => rv_rv hc hr) (fun r hr => wsd_congr (cw_rv W hr)) (fun r hr => ck_mk W hr)
