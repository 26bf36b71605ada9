/-! fills -/
def du (σ : Nat → Nat) (row u : Nat) : Nat := row / σ 2 ^ u % σ 2
/-- the class: behind the known ones, the first u of the unknown too -/
def cfw (σ : Nat → Nat) (row u : Nat) : Nat → Nat := fun i => (lg σ zf (σ 3) i + cnt (fun v => tb1 σ (du σ row v) i) u) % σ 1
/-- who stands at place j of the log, if row tells the unknown -/
def ps (σ : Nat → Nat) (row j : Nat) : Nat := if σ (68 + j) = 9 then du σ row (unk σ j) else σ (68 + j)
def mfw (σ : Nat → Nat) (row k : Nat) : Nat → Nat := fun i => cnt (fun j => tb1 σ (ps σ row j) i) k % σ 1
theorem tw_cnt {σ : Nat → Nat} {A k : Nat} {g : Nat → Bool} : (A + cnt g (k + 1)) % σ 1 = ((A + cnt g k) % σ 1 + if g k then 1 else 0) % σ 1 := by
  rw [cnt_succ, Nat.mod_add_mod, Nat.add_assoc]
theorem tw_cfw {σ : Nat → Nat} {row u i : Nat} : tw (σ 1) (cfw σ row u) (tb1 σ (du σ row u)) i = cfw σ row (u + 1) i := by
  unfold tw cfw
  rw [tw_cnt]
theorem tw_mfw {σ : Nat → Nat} {row k i : Nat} : tw (σ 1) (mfw σ row k) (tb1 σ (ps σ row k)) i = mfw σ row (k + 1) i := by
  unfold tw mfw
  rw [cnt_succ, Nat.mod_add_mod]
theorem cnt_ps {σ : Nat → Nat} {row i : Nat} : ∀ k, cnt (fun j => tb1 σ (ps σ row j) i) k = lt1 σ i k + cnt (fun v => tb1 σ (du σ row v) i) (unk σ k)
  | 0 => rfl
  | k + 1 => by
    rw [cnt_succ, lt1_succ, unk_succ, cnt_ps k]
    unfold ps
    by_cases h9 : σ (68 + k) = 9
    · rw [if_pos h9, if_pos h9, cnt_succ]
      simp [h9]
      omega
    · rw [if_neg h9, if_neg h9]
      simp [h9]
      omega
theorem mfw_cfw {σ : Nat → Nat} (W : WF σ) {row i : Nat} : mfw σ row (σ 3) i = cfw σ row (unk σ (σ 3)) i := by
  have hcol := W.col
  unfold mfw cfw
  rw [cnt_ps, lg_val W (f := zf) (by unfold zf; omega), Nat.mod_add_mod]
  unfold zf
  rw [Nat.zero_add]
theorem c_filled_L {σ : Nat → Nat} {h : Hp} (W : WF σ) (F : FX h) (C : CO h 5 σ) {row U : Nat} (hrow : row < 2147483648) (h2 : 0 < σ 2) (hU : U ≤ 10) : ∀ (k u n : Nat), u + k = U → k < n →
    P_X5_filled_L9 n 0 (I U) (I (enc (cfw σ row u))) (I (row / σ 2 ^ u)) (I u) h = some (I (enc (cfw σ row U)), h) := by
  have h7 := W.2.2.1
  have hcol := W.col
  have k1 := C.1.2.1
  have k2 := C.1.2.2.1
  intro k
  induction k with
  | zero =>
    intro u n hu hn
    cases n with
    | zero => omega
    | succ n =>
      have : u = U := by omega
      subst this
      unfold P_X5_filled_L9
      simp (disch := first | assumption | exact FX_setI ‹_› | exact FX_setI (FX_setI ‹_›) | exact FX_setI (FX_setI (FX_setI ‹_›)) | exact FX_setI (FX_setI (FX_setI (FX_setI ‹_›))) | omega) only [gr_0_0, gr_0_1, gr_0_2, gr_0_3, gr_0_4, gr_0_5, gr_0_6, gr_0_7, gr_1_0, gr_1_5, gr_1_7, gr_5_3, gr_5_9, gr_8_3, gr_8_9, gr_11_3, gr_11_9, gr_14_0, gr_14_1, gr_14_2, gr_18_0, gr_18_1, gr_18_2, gr_24_0, gr_24_1, gr_24_2, gr_24_3, gr_24_5, gr_24_6, gr_24_10, gr_24_11, gr_24_12, gr_24_15, al_2, al_3, al_4, al_7, al_10, al_13, al_15, al_16, al_17, al_19, al_20, al_21, al_22, al_23, al_25, al_26, al_27, al_28, al_29, al_30, al_31, al_32, al_33, al_34, as_2, as_3, as_4, as_7, as_10, as_13, as_15, as_16, as_17, as_19, as_20, as_21, as_22, as_23, as_25, as_26, as_27, as_28, as_29, as_30, as_31, as_32, as_33, as_34, gi_0, gi_1, gi_5, gi_8, gi_11, gi_14, gi_18, gi_24, pi_0, pi_1, pi_5, pi_8, pi_11, pi_14, pi_18, pi_24, rc_0, rc_1, rc_5, rc_8, rc_11, rc_14, rc_18, rc_24, ln_2, ln_3, ln_4, ln_7, ln_10, ln_13, ln_15, ln_16, ln_17, ln_19, ln_20, ln_21, ln_22, ln_23, ln_25, ln_26, ln_27, ln_28, ln_29, ln_30, ln_31, ln_32, ln_33, ln_34, ln_6, ln_9, ln_12, ciN, cvN, lt_eq, nn_none, nn_some, setI_1, setI_at, setI_R, upd2_at, I_add, I_addn, Int32.neg_neg, I_mul, I_ltI, I_leI, I_eqI, I_nat, if_true, if_false, reduceIte, reduceIteN, I_difn, bz_0, bz_1, nz_I, I_rem, I_div, I_sub, l4095, l32, l63, l0, l1, l2, l3, l4, l5, l6, l7, l8, l9, l10, l11, l12, l16, l24, l28, l31, l40, l48, l57, l64, l68, l78, l79, l99, l255, l2000, l2187, l1000000000]
  | succ k ih =>
    intro u n hu hn
    cases n with
    | zero => omega
    | succ n =>
      have h11 := ih (u + 1) n (by omega) (by omega)
      have hq : row / σ 2 ^ u < 2147483648 := Nat.lt_of_le_of_lt (Nat.div_le_self _ _) hrow
      have hre := c_remainder (h := h) (a := row / σ 2 ^ u) (b := σ 2) hq (by omega) h2
      have hqu := c_quotient (h := h) (a := row / σ 2 ^ u) (b := σ 2) hq (by omega)
      have hp : row / σ 2 ^ u % σ 2 < σ 2 := Nat.mod_lt _ h2
      have ht := c_turnsOf F W C hp
      have htu := c_turned (h := h) (f := cfw σ row u) W (fun i _ => Nat.mod_lt _ (by omega)) (row / σ 2 ^ u % σ 2)
      have e : enc (tw (σ 1) (cfw σ row u) (tb1 σ (row / σ 2 ^ u % σ 2))) = enc (cfw σ row (u + 1)) := enc_congr (fun i _ => tw_cfw)
      rw [e] at htu
      have e2 : row / σ 2 ^ u / σ 2 = row / σ 2 ^ (u + 1) := by rw [Nat.div_div_eq_div_mul, Nat.pow_succ]
      rw [e2] at hqu
      unfold P_X5_filled_L9
      rw [if_neg (show ¬ I U ≤ I u by rw [I_leI (by omega) (by omega)]; omega), gr_0_1 F, gr_0_1 F, gi_5 F, k2, hre, ciN, rc_5 F, ht, ciN, gr_0_1 F, gi_5 F, k1, htu, ciN, lt_eq, gr_0_1 F, gi_5 F, k2, hqu, ciN, lt_eq, lt_eq, I1]
      exact h11
theorem c_fills_L {σ : Nat → Nat} {h : Hp} (W : WF σ) (F : FX h) (C : CO h 5 σ) {N U : Nat} (hN : N ≤ 20000) (hU : U ≤ 10) (h2 : 0 < N → 0 < U → 0 < σ 2) : ∀ (k r n : Nat), r + k = N → k < n →
    P_X5_fills_L47 n 0 (I U) (I (enc (lg σ zf (σ 3)))) (I N) (I (cnt (fun row => decide (enc (cfw σ row U) = enc (cur σ))) r)) (I r) h = some (I (cnt (fun row => decide (enc (cfw σ row U) = enc (cur σ))) N), h) := by
  have hcol := W.col
  intro k
  induction k with
  | zero =>
    intro r n hr hn
    cases n with
    | zero => omega
    | succ n =>
      have : r = N := by omega
      subst this
      unfold P_X5_fills_L47
      simp (disch := first | assumption | exact FX_setI ‹_› | exact FX_setI (FX_setI ‹_›) | exact FX_setI (FX_setI (FX_setI ‹_›)) | exact FX_setI (FX_setI (FX_setI (FX_setI ‹_›))) | omega) only [gr_0_0, gr_0_1, gr_0_2, gr_0_3, gr_0_4, gr_0_5, gr_0_6, gr_0_7, gr_1_0, gr_1_5, gr_1_7, gr_5_3, gr_5_9, gr_8_3, gr_8_9, gr_11_3, gr_11_9, gr_14_0, gr_14_1, gr_14_2, gr_18_0, gr_18_1, gr_18_2, gr_24_0, gr_24_1, gr_24_2, gr_24_3, gr_24_5, gr_24_6, gr_24_10, gr_24_11, gr_24_12, gr_24_15, al_2, al_3, al_4, al_7, al_10, al_13, al_15, al_16, al_17, al_19, al_20, al_21, al_22, al_23, al_25, al_26, al_27, al_28, al_29, al_30, al_31, al_32, al_33, al_34, as_2, as_3, as_4, as_7, as_10, as_13, as_15, as_16, as_17, as_19, as_20, as_21, as_22, as_23, as_25, as_26, as_27, as_28, as_29, as_30, as_31, as_32, as_33, as_34, gi_0, gi_1, gi_5, gi_8, gi_11, gi_14, gi_18, gi_24, pi_0, pi_1, pi_5, pi_8, pi_11, pi_14, pi_18, pi_24, rc_0, rc_1, rc_5, rc_8, rc_11, rc_14, rc_18, rc_24, ln_2, ln_3, ln_4, ln_7, ln_10, ln_13, ln_15, ln_16, ln_17, ln_19, ln_20, ln_21, ln_22, ln_23, ln_25, ln_26, ln_27, ln_28, ln_29, ln_30, ln_31, ln_32, ln_33, ln_34, ln_6, ln_9, ln_12, ciN, cvN, lt_eq, nn_none, nn_some, setI_1, setI_at, setI_R, upd2_at, I_add, I_addn, Int32.neg_neg, I_mul, I_ltI, I_leI, I_eqI, I_nat, if_true, if_false, reduceIte, reduceIteN, I_difn, bz_0, bz_1, nz_I, I_rem, I_div, I_sub, l4095, l32, l63, l0, l1, l2, l3, l4, l5, l6, l7, l8, l9, l10, l11, l12, l16, l24, l28, l31, l40, l48, l57, l64, l68, l78, l79, l99, l255, l2000, l2187, l1000000000]
  | succ k ih =>
    intro r n hr hn
    cases n with
    | zero => omega
    | succ n =>
      have h11 := ih (r + 1) n (by omega) (by omega)
      have e0 : enc (lg σ zf (σ 3)) = enc (cfw σ r 0) := enc_congr (fun i hi => by
        unfold cfw
        show _ = (_ + 0) % σ 1
        rw [Nat.add_zero, Nat.mod_eq_of_lt (lg_lt W (f := zf) (fun i _ => by unfold zf; omega) (σ 3) i hi)])
      have hfi : P_X5_filled 0 (I (enc (lg σ zf (σ 3)))) (I U) (I r) h = some (I (enc (cfw σ r U)), h) := by
        unfold P_X5_filled
        rw [lt_eq, lt_eq, lt_eq, e0]
        by_cases hU0 : U = 0
        · subst hU0
          have hf := FU_eq
          cases hfu : FU with
          | zero => omega
          | succ m =>
            unfold P_X5_filled_L9
            exact if_pos (Int32.le_refl (I 0))
        · have hfl := c_filled_L W F C (row := r) (by omega) (h2 (by omega) (by omega)) hU U 0 FU (by omega) (by have := FU_eq; omega)
          rw [Nat.pow_zero, Nat.div_one] at hfl
          exact hfl
      have hc := COc C
      have hl1 := enc_lt (cfw σ r U)
      have hl2 := enc_lt (cur σ)
      rw [cnt_succ] at h11
      unfold P_X5_fills_L47
      simp (disch := first | assumption | exact FX_setI ‹_› | exact FX_setI (FX_setI ‹_›) | exact FX_setI (FX_setI (FX_setI ‹_›)) | exact FX_setI (FX_setI (FX_setI (FX_setI ‹_›))) | omega) only [gr_0_0, gr_0_1, gr_0_2, gr_0_3, gr_0_4, gr_0_5, gr_0_6, gr_0_7, gr_1_0, gr_1_5, gr_1_7, gr_5_3, gr_5_9, gr_8_3, gr_8_9, gr_11_3, gr_11_9, gr_14_0, gr_14_1, gr_14_2, gr_18_0, gr_18_1, gr_18_2, gr_24_0, gr_24_1, gr_24_2, gr_24_3, gr_24_5, gr_24_6, gr_24_10, gr_24_11, gr_24_12, gr_24_15, al_2, al_3, al_4, al_7, al_10, al_13, al_15, al_16, al_17, al_19, al_20, al_21, al_22, al_23, al_25, al_26, al_27, al_28, al_29, al_30, al_31, al_32, al_33, al_34, as_2, as_3, as_4, as_7, as_10, as_13, as_15, as_16, as_17, as_19, as_20, as_21, as_22, as_23, as_25, as_26, as_27, as_28, as_29, as_30, as_31, as_32, as_33, as_34, gi_0, gi_1, gi_5, gi_8, gi_11, gi_14, gi_18, gi_24, pi_0, pi_1, pi_5, pi_8, pi_11, pi_14, pi_18, pi_24, rc_0, rc_1, rc_5, rc_8, rc_11, rc_14, rc_18, rc_24, ln_2, ln_3, ln_4, ln_7, ln_10, ln_13, ln_15, ln_16, ln_17, ln_19, ln_20, ln_21, ln_22, ln_23, ln_25, ln_26, ln_27, ln_28, ln_29, ln_30, ln_31, ln_32, ln_33, ln_34, ln_6, ln_9, ln_12, ciN, cvN, lt_eq, nn_none, nn_some, setI_1, setI_at, setI_R, upd2_at, I_add, I_addn, Int32.neg_neg, I_mul, I_ltI, I_leI, I_eqI, I_nat, if_true, if_false, reduceIte, reduceIteN, I_difn, bz_0, bz_1, nz_I, I_rem, I_div, I_sub, l4095, l32, l63, l0, l1, l2, l3, l4, l5, l6, l7, l8, l9, l10, l11, l12, l16, l24, l28, l31, l40, l48, l57, l64, l68, l78, l79, l99, l255, l2000, l2187, l1000000000, hfi, hc]
      by_cases he : enc (cfw σ r U) = enc (cur σ)
      · simp only [he, decide_true, if_true] at h11
        rw [if_pos he]
        exact h11
      · simp only [he, decide_false, Bool.false_eq_true, if_false, Nat.add_zero] at h11
        rw [if_neg he]
        exact h11
theorem m_fills_L21 {σ : Nat → Nat} {h : Hp} (W : WF σ) (M : MS h σ) {U : Nat} (hU : U ≤ 10) (kont : Int32 → Hp → Option (Int32 × Hp)) : ∀ (k i n : Nat), i + k = U → k < n →
    P_X6_fills_L21 n 24 (I U) (I (σ 2 ^ i)) (I i) h kont = kont (I (σ 2 ^ U)) h := by
  obtain ⟨F, hs⟩ := M
  intro k
  induction k with
  | zero =>
    intro i n hi hn
    cases n with
    | zero => omega
    | succ n =>
      have : i = U := by omega
      subst this
      unfold P_X6_fills_L21
      simp (disch := first | assumption | exact FX_setI ‹_› | exact FX_setI (FX_setI ‹_›) | exact FX_setI (FX_setI (FX_setI ‹_›)) | exact FX_setI (FX_setI (FX_setI (FX_setI ‹_›))) | omega) only [gr_0_0, gr_0_1, gr_0_2, gr_0_3, gr_0_4, gr_0_5, gr_0_6, gr_0_7, gr_1_0, gr_1_5, gr_1_7, gr_5_3, gr_5_9, gr_8_3, gr_8_9, gr_11_3, gr_11_9, gr_14_0, gr_14_1, gr_14_2, gr_18_0, gr_18_1, gr_18_2, gr_24_0, gr_24_1, gr_24_2, gr_24_3, gr_24_5, gr_24_6, gr_24_10, gr_24_11, gr_24_12, gr_24_15, al_2, al_3, al_4, al_7, al_10, al_13, al_15, al_16, al_17, al_19, al_20, al_21, al_22, al_23, al_25, al_26, al_27, al_28, al_29, al_30, al_31, al_32, al_33, al_34, as_2, as_3, as_4, as_7, as_10, as_13, as_15, as_16, as_17, as_19, as_20, as_21, as_22, as_23, as_25, as_26, as_27, as_28, as_29, as_30, as_31, as_32, as_33, as_34, gi_0, gi_1, gi_5, gi_8, gi_11, gi_14, gi_18, gi_24, pi_0, pi_1, pi_5, pi_8, pi_11, pi_14, pi_18, pi_24, rc_0, rc_1, rc_5, rc_8, rc_11, rc_14, rc_18, rc_24, ln_2, ln_3, ln_4, ln_7, ln_10, ln_13, ln_15, ln_16, ln_17, ln_19, ln_20, ln_21, ln_22, ln_23, ln_25, ln_26, ln_27, ln_28, ln_29, ln_30, ln_31, ln_32, ln_33, ln_34, ln_6, ln_9, ln_12, ciN, cvN, lt_eq, nn_none, nn_some, setI_1, setI_at, setI_R, upd2_at, I_add, I_addn, Int32.neg_neg, I_mul, I_ltI, I_leI, I_eqI, I_nat, if_true, if_false, reduceIte, reduceIteN, I_difn, bz_0, bz_1, nz_I, I_rem, I_div, I_sub, l4095, l32, l63, l0, l1, l2, l3, l4, l5, l6, l7, l8, l9, l10, l11, l12, l16, l24, l28, l31, l40, l48, l57, l64, l68, l78, l79, l99, l255, l2000, l2187, l1000000000]
  | succ k ih =>
    intro i n hi hn
    cases n with
    | zero => omega
    | succ n =>
      have h11 := ih (i + 1) n (by omega) (by omega)
      rw [Nat.pow_succ] at h11
      unfold P_X6_fills_L21
      simp (disch := first | assumption | exact FX_setI ‹_› | exact FX_setI (FX_setI ‹_›) | exact FX_setI (FX_setI (FX_setI ‹_›)) | exact FX_setI (FX_setI (FX_setI (FX_setI ‹_›))) | omega) only [gr_0_0, gr_0_1, gr_0_2, gr_0_3, gr_0_4, gr_0_5, gr_0_6, gr_0_7, gr_1_0, gr_1_5, gr_1_7, gr_5_3, gr_5_9, gr_8_3, gr_8_9, gr_11_3, gr_11_9, gr_14_0, gr_14_1, gr_14_2, gr_18_0, gr_18_1, gr_18_2, gr_24_0, gr_24_1, gr_24_2, gr_24_3, gr_24_5, gr_24_6, gr_24_10, gr_24_11, gr_24_12, gr_24_15, al_2, al_3, al_4, al_7, al_10, al_13, al_15, al_16, al_17, al_19, al_20, al_21, al_22, al_23, al_25, al_26, al_27, al_28, al_29, al_30, al_31, al_32, al_33, al_34, as_2, as_3, as_4, as_7, as_10, as_13, as_15, as_16, as_17, as_19, as_20, as_21, as_22, as_23, as_25, as_26, as_27, as_28, as_29, as_30, as_31, as_32, as_33, as_34, gi_0, gi_1, gi_5, gi_8, gi_11, gi_14, gi_18, gi_24, pi_0, pi_1, pi_5, pi_8, pi_11, pi_14, pi_18, pi_24, rc_0, rc_1, rc_5, rc_8, rc_11, rc_14, rc_18, rc_24, ln_2, ln_3, ln_4, ln_7, ln_10, ln_13, ln_15, ln_16, ln_17, ln_19, ln_20, ln_21, ln_22, ln_23, ln_25, ln_26, ln_27, ln_28, ln_29, ln_30, ln_31, ln_32, ln_33, ln_34, ln_6, ln_9, ln_12, ciN, cvN, lt_eq, nn_none, nn_some, setI_1, setI_at, setI_R, upd2_at, I_add, I_addn, Int32.neg_neg, I_mul, I_ltI, I_leI, I_eqI, I_nat, if_true, if_false, reduceIte, reduceIteN, I_difn, bz_0, bz_1, nz_I, I_rem, I_div, I_sub, l4095, l32, l63, l0, l1, l2, l3, l4, l5, l6, l7, l8, l9, l10, l11, l12, l16, l24, l28, l31, l40, l48, l57, l64, l68, l78, l79, l99, l255, l2000, l2187, l1000000000, hs]
      exact h11
theorem m_fills_L73 {σ : Nat → Nat} (W : WF σ) {row : Nat} (hrow : row < 2147483648) (h2 : 0 < unk σ (σ 3) → 0 < σ 2) (v22 v23 v24 v25 : Int32) (kont : Hp → Option (Int32 × Hp)) : ∀ (k j n : Nat) (h : Hp), j + k = σ 3 → k < n → MS h (wset σ (mfw σ row j)) →
    ∃ h', P_X6_fills_L73 n 24 v22 v23 v24 v25 (I (row / σ 2 ^ unk σ j)) (I j) h kont = kont h' ∧ FxA [26] h h' ∧ MS h' (wset σ (mfw σ row (σ 3))) := by
  have h3 := W.2.2.2.1
  have h7 := W.2.2.1
  have hcol := W.col
  intro k
  induction k with
  | zero =>
    intro j n h hj hn M
    cases n with
    | zero => omega
    | succ n =>
      have : j = σ 3 := by omega
      subst this
      obtain ⟨F, hs⟩ := id M
      refine ⟨h, ?_, FxA.rf, M⟩
      unfold P_X6_fills_L73
      simp (disch := first | assumption | exact FX_setI ‹_› | exact FX_setI (FX_setI ‹_›) | exact FX_setI (FX_setI (FX_setI ‹_›)) | exact FX_setI (FX_setI (FX_setI (FX_setI ‹_›))) | omega) only [gr_0_0, gr_0_1, gr_0_2, gr_0_3, gr_0_4, gr_0_5, gr_0_6, gr_0_7, gr_1_0, gr_1_5, gr_1_7, gr_5_3, gr_5_9, gr_8_3, gr_8_9, gr_11_3, gr_11_9, gr_14_0, gr_14_1, gr_14_2, gr_18_0, gr_18_1, gr_18_2, gr_24_0, gr_24_1, gr_24_2, gr_24_3, gr_24_5, gr_24_6, gr_24_10, gr_24_11, gr_24_12, gr_24_15, al_2, al_3, al_4, al_7, al_10, al_13, al_15, al_16, al_17, al_19, al_20, al_21, al_22, al_23, al_25, al_26, al_27, al_28, al_29, al_30, al_31, al_32, al_33, al_34, as_2, as_3, as_4, as_7, as_10, as_13, as_15, as_16, as_17, as_19, as_20, as_21, as_22, as_23, as_25, as_26, as_27, as_28, as_29, as_30, as_31, as_32, as_33, as_34, gi_0, gi_1, gi_5, gi_8, gi_11, gi_14, gi_18, gi_24, pi_0, pi_1, pi_5, pi_8, pi_11, pi_14, pi_18, pi_24, rc_0, rc_1, rc_5, rc_8, rc_11, rc_14, rc_18, rc_24, ln_2, ln_3, ln_4, ln_7, ln_10, ln_13, ln_15, ln_16, ln_17, ln_19, ln_20, ln_21, ln_22, ln_23, ln_25, ln_26, ln_27, ln_28, ln_29, ln_30, ln_31, ln_32, ln_33, ln_34, ln_6, ln_9, ln_12, ciN, cvN, lt_eq, nn_none, nn_some, setI_1, setI_at, setI_R, upd2_at, I_add, I_addn, Int32.neg_neg, I_mul, I_ltI, I_leI, I_eqI, I_nat, if_true, if_false, reduceIte, reduceIteN, I_difn, bz_0, bz_1, nz_I, I_rem, I_div, I_sub, l4095, l32, l63, l0, l1, l2, l3, l4, l5, l6, l7, l8, l9, l10, l11, l12, l16, l24, l28, l31, l40, l48, l57, l64, l68, l78, l79, l99, l255, l2000, l2187, l1000000000, hs, wset_lo]
  | succ k ih =>
    intro j n h hj hn M
    cases n with
    | zero => omega
    | succ n =>
      have hj3 : j < σ 3 := by omega
      have hla := m_logAt M (show j < 10 by omega)
      rw [wset_hi (show 16 ≤ 68 + j by omega)] at hla
      have hlo := W.log hj3
      have hq : row / σ 2 ^ unk σ j < 2147483648 := Nat.lt_of_le_of_lt (Nat.div_le_self _ _) hrow
      obtain ⟨F, hs⟩ := id M
      rcases W.2.2.2.2.2.2.2.2.1 j hj3 with hp | h9
      · have h9 : ¬ σ (68 + j) = 9 := by omega
        obtain ⟨h1, a1, a2, a3⟩ := m_goes W hp (f := mfw σ row j) (fun i _ => Nat.mod_lt _ (by omega)) M
        have e : ∀ i, tw (σ 1) (mfw σ row j) (tb1 σ (σ (68 + j))) i = mfw σ row (j + 1) i := fun i => by
          have := tw_mfw (σ := σ) (row := row) (k := j) (i := i)
          unfold ps at this
          rw [if_neg h9] at this
          exact this
        obtain ⟨h', r1, r2, r3⟩ := ih (j + 1) n h1 (by omega) (by omega) (MS_congr a3 (fun q _ => wset_congr (fun i _ => e i) q))
        rw [unk_succ, if_neg h9, Nat.add_zero] at r1
        refine ⟨h', ?_, a2.tr r2, r3⟩
        unfold P_X6_fills_L73
        simp (disch := first | assumption | exact FX_setI ‹_› | exact FX_setI (FX_setI ‹_›) | exact FX_setI (FX_setI (FX_setI ‹_›)) | exact FX_setI (FX_setI (FX_setI (FX_setI ‹_›))) | omega) only [gr_0_0, gr_0_1, gr_0_2, gr_0_3, gr_0_4, gr_0_5, gr_0_6, gr_0_7, gr_1_0, gr_1_5, gr_1_7, gr_5_3, gr_5_9, gr_8_3, gr_8_9, gr_11_3, gr_11_9, gr_14_0, gr_14_1, gr_14_2, gr_18_0, gr_18_1, gr_18_2, gr_24_0, gr_24_1, gr_24_2, gr_24_3, gr_24_5, gr_24_6, gr_24_10, gr_24_11, gr_24_12, gr_24_15, al_2, al_3, al_4, al_7, al_10, al_13, al_15, al_16, al_17, al_19, al_20, al_21, al_22, al_23, al_25, al_26, al_27, al_28, al_29, al_30, al_31, al_32, al_33, al_34, as_2, as_3, as_4, as_7, as_10, as_13, as_15, as_16, as_17, as_19, as_20, as_21, as_22, as_23, as_25, as_26, as_27, as_28, as_29, as_30, as_31, as_32, as_33, as_34, gi_0, gi_1, gi_5, gi_8, gi_11, gi_14, gi_18, gi_24, pi_0, pi_1, pi_5, pi_8, pi_11, pi_14, pi_18, pi_24, rc_0, rc_1, rc_5, rc_8, rc_11, rc_14, rc_18, rc_24, ln_2, ln_3, ln_4, ln_7, ln_10, ln_13, ln_15, ln_16, ln_17, ln_19, ln_20, ln_21, ln_22, ln_23, ln_25, ln_26, ln_27, ln_28, ln_29, ln_30, ln_31, ln_32, ln_33, ln_34, ln_6, ln_9, ln_12, ciN, cvN, lt_eq, nn_none, nn_some, setI_1, setI_at, setI_R, upd2_at, I_add, I_addn, Int32.neg_neg, I_mul, I_ltI, I_leI, I_eqI, I_nat, if_true, if_false, reduceIte, reduceIteN, I_difn, bz_0, bz_1, nz_I, I_rem, I_div, I_sub, l4095, l32, l63, l0, l1, l2, l3, l4, l5, l6, l7, l8, l9, l10, l11, l12, l16, l24, l28, l31, l40, l48, l57, l64, l68, l78, l79, l99, l255, l2000, l2187, l1000000000, hs, wset_lo, hla, a1]
        exact r1
      · have hu : 0 < unk σ (σ 3) := by
          rcases Nat.eq_zero_or_pos (unk σ (σ 3)) with z | z
          · exact absurd h9 (unk_0 _ z j hj3)
          · exact z
        have h20 := h2 hu
        have hp : row / σ 2 ^ unk σ j % σ 2 < σ 2 := Nat.mod_lt _ h20
        obtain ⟨h1, a1, a2, a3⟩ := m_goes W hp (f := mfw σ row j) (fun i _ => Nat.mod_lt _ (by omega)) M
        have e : ∀ i, tw (σ 1) (mfw σ row j) (tb1 σ (row / σ 2 ^ unk σ j % σ 2)) i = mfw σ row (j + 1) i := fun i => by
          have := tw_mfw (σ := σ) (row := row) (k := j) (i := i)
          unfold ps du at this
          rw [if_pos h9] at this
          exact this
        obtain ⟨h', r1, r2, r3⟩ := ih (j + 1) n h1 (by omega) (by omega) (MS_congr a3 (fun q _ => wset_congr (fun i _ => e i) q))
        rw [unk_succ, if_pos h9, Nat.pow_succ, ← Nat.div_div_eq_div_mul] at r1
        refine ⟨h', ?_, a2.tr r2, r3⟩
        rw [h9] at hla
        unfold P_X6_fills_L73
        simp (disch := first | assumption | exact FX_setI ‹_› | exact FX_setI (FX_setI ‹_›) | exact FX_setI (FX_setI (FX_setI ‹_›)) | exact FX_setI (FX_setI (FX_setI (FX_setI ‹_›))) | omega) only [gr_0_0, gr_0_1, gr_0_2, gr_0_3, gr_0_4, gr_0_5, gr_0_6, gr_0_7, gr_1_0, gr_1_5, gr_1_7, gr_5_3, gr_5_9, gr_8_3, gr_8_9, gr_11_3, gr_11_9, gr_14_0, gr_14_1, gr_14_2, gr_18_0, gr_18_1, gr_18_2, gr_24_0, gr_24_1, gr_24_2, gr_24_3, gr_24_5, gr_24_6, gr_24_10, gr_24_11, gr_24_12, gr_24_15, al_2, al_3, al_4, al_7, al_10, al_13, al_15, al_16, al_17, al_19, al_20, al_21, al_22, al_23, al_25, al_26, al_27, al_28, al_29, al_30, al_31, al_32, al_33, al_34, as_2, as_3, as_4, as_7, as_10, as_13, as_15, as_16, as_17, as_19, as_20, as_21, as_22, as_23, as_25, as_26, as_27, as_28, as_29, as_30, as_31, as_32, as_33, as_34, gi_0, gi_1, gi_5, gi_8, gi_11, gi_14, gi_18, gi_24, pi_0, pi_1, pi_5, pi_8, pi_11, pi_14, pi_18, pi_24, rc_0, rc_1, rc_5, rc_8, rc_11, rc_14, rc_18, rc_24, ln_2, ln_3, ln_4, ln_7, ln_10, ln_13, ln_15, ln_16, ln_17, ln_19, ln_20, ln_21, ln_22, ln_23, ln_25, ln_26, ln_27, ln_28, ln_29, ln_30, ln_31, ln_32, ln_33, ln_34, ln_6, ln_9, ln_12, ciN, cvN, lt_eq, nn_none, nn_some, setI_1, setI_at, setI_R, upd2_at, I_add, I_addn, Int32.neg_neg, I_mul, I_ltI, I_leI, I_eqI, I_nat, if_true, if_false, reduceIte, reduceIteN, I_difn, bz_0, bz_1, nz_I, I_rem, I_div, I_sub, l4095, l32, l63, l0, l1, l2, l3, l4, l5, l6, l7, l8, l9, l10, l11, l12, l16, l24, l28, l31, l40, l48, l57, l64, l68, l78, l79, l99, l255, l2000, l2187, l1000000000, hs, wset_lo, hla, a1]
        exact r1
def mfg (σ : Nat → Nat) (row : Nat) : Bool := decide (hr (σ 1) (mfw σ row (σ 3)) 0 (σ 0) = hr (σ 1) (cur σ) 0 (σ 0))
theorem m_fills_L56 {σ : Nat → Nat} (W : WF σ) {N : Nat} (hN : N ≤ 20000) (h2 : 0 < N → 0 < unk σ (σ 3) → 0 < σ 2) : ∀ (k r n : Nat) (h : Hp) (f : Nat → Nat), r + k = N → k < n → KS h (cur σ) → MS h (wset σ f) →
    ∃ h', P_X6_fills_L56 n 24 (I N) (I (hr (σ 1) (cur σ) 0 (σ 0))) (I (cnt (mfg σ) r)) (I r) h = some (I (cnt (mfg σ) N), h') ∧ FxA [26] h h' ∧ MS h' (wset σ (cur σ)) := by
  have hcol := W.col
  have hn0 := W.1
  have pb := pow_bd hcol.2 hn0.2
  have b2 : hr (σ 1) (cur σ) 0 (σ 0) < σ 1 ^ σ 0 := hr_lt _ _ (fun i _ hi => W.cur i (by omega))
  intro k
  induction k with
  | zero =>
    intro r n h f hr hn K M
    cases n with
    | zero => omega
    | succ n =>
      have : r = N := by omega
      subst this
      obtain ⟨h1, a1, a2, a3⟩ := m_putsBack K M
      obtain ⟨F, hs⟩ := id M
      refine ⟨h1, ?_, a2, a3⟩
      unfold P_X6_fills_L56
      simp (disch := first | assumption | exact FX_setI ‹_› | exact FX_setI (FX_setI ‹_›) | exact FX_setI (FX_setI (FX_setI ‹_›)) | exact FX_setI (FX_setI (FX_setI (FX_setI ‹_›))) | omega) only [gr_0_0, gr_0_1, gr_0_2, gr_0_3, gr_0_4, gr_0_5, gr_0_6, gr_0_7, gr_1_0, gr_1_5, gr_1_7, gr_5_3, gr_5_9, gr_8_3, gr_8_9, gr_11_3, gr_11_9, gr_14_0, gr_14_1, gr_14_2, gr_18_0, gr_18_1, gr_18_2, gr_24_0, gr_24_1, gr_24_2, gr_24_3, gr_24_5, gr_24_6, gr_24_10, gr_24_11, gr_24_12, gr_24_15, al_2, al_3, al_4, al_7, al_10, al_13, al_15, al_16, al_17, al_19, al_20, al_21, al_22, al_23, al_25, al_26, al_27, al_28, al_29, al_30, al_31, al_32, al_33, al_34, as_2, as_3, as_4, as_7, as_10, as_13, as_15, as_16, as_17, as_19, as_20, as_21, as_22, as_23, as_25, as_26, as_27, as_28, as_29, as_30, as_31, as_32, as_33, as_34, gi_0, gi_1, gi_5, gi_8, gi_11, gi_14, gi_18, gi_24, pi_0, pi_1, pi_5, pi_8, pi_11, pi_14, pi_18, pi_24, rc_0, rc_1, rc_5, rc_8, rc_11, rc_14, rc_18, rc_24, ln_2, ln_3, ln_4, ln_7, ln_10, ln_13, ln_15, ln_16, ln_17, ln_19, ln_20, ln_21, ln_22, ln_23, ln_25, ln_26, ln_27, ln_28, ln_29, ln_30, ln_31, ln_32, ln_33, ln_34, ln_6, ln_9, ln_12, ciN, cvN, lt_eq, nn_none, nn_some, setI_1, setI_at, setI_R, upd2_at, I_add, I_addn, Int32.neg_neg, I_mul, I_ltI, I_leI, I_eqI, I_nat, if_true, if_false, reduceIte, reduceIteN, I_difn, bz_0, bz_1, nz_I, I_rem, I_div, I_sub, l4095, l32, l63, l0, l1, l2, l3, l4, l5, l6, l7, l8, l9, l10, l11, l12, l16, l24, l28, l31, l40, l48, l57, l64, l68, l78, l79, l99, l255, l2000, l2187, l1000000000, a1]
  | succ k ih =>
    intro r n h f hr0 hn K M
    cases n with
    | zero => omega
    | succ n =>
      obtain ⟨h1, a1, a2, a3⟩ := m_zeroes M
      have a3' : MS h1 (wset σ (mfw σ r 0)) := MS_congr a3 (fun q _ => wset_congr (fun i _ => by unfold mfw; show 0 = 0 % σ 1; rw [Nat.zero_mod]) q)
      have F := M.1
      have F1 := a3.1
      have K1 : KS h1 (cur σ) := fun j hj => by rw [a2.2.2 33 (by decide)]; exact K j hj
      have hsn := fun (h2 : Hp) (M2 : MS h2 (wset σ (mfw σ r (σ 3)))) => m_stateNow W M2 (fun i _ => by unfold mfw; exact Nat.mod_lt _ (by omega))
      have b1 : hr (σ 1) (mfw σ r (σ 3)) 0 (σ 0) < σ 1 ^ σ 0 := hr_lt _ _ (fun i _ hi => by unfold mfw; exact Nat.mod_lt _ (by omega))
      obtain ⟨h2', c1, c2, c3⟩ := m_fills_L73 W (row := r) (by omega) (fun hu => h2 (by omega) hu) (I N) (I (hr (σ 1) (cur σ) 0 (σ 0))) (I (cnt (mfg σ) r)) (I r) (fun h13 => rc h13 24 6 <| ci (P_X6_stateNow 24 h13) fun v39 h14 =>
        if v39 = I (hr (σ 1) (cur σ) 0 (σ 0)) then (
        lt ((I (cnt (mfg σ) r) + 1) : Int32) fun v42 =>
        lt ((I r + 1) : Int32) fun v43 =>
        P_X6_fills_L56 n 24 (I N) (I (hr (σ 1) (cur σ) 0 (σ 0))) v42 v43 h14)
        else (
        lt ((I (cnt (mfg σ) r) + 0) : Int32) fun v40 =>
        lt ((I r + 1) : Int32) fun v41 =>
        P_X6_fills_L56 n 24 (I N) (I (hr (σ 1) (cur σ) 0 (σ 0))) v40 v41 h14)) (σ 3) 0 FU h1 (by omega) (by have := FU_eq; have := W.2.2.2.1; omega) a3'
      have K2 : KS h2' (cur σ) := fun j hj => by rw [c2.2.2 33 (by decide)]; exact K1 j hj
      obtain ⟨h3, r1, r2, r3⟩ := ih (r + 1) n h2' _ (by omega) (by omega) K2 c3
      refine ⟨h3, ?_, (a2.tr c2).tr r2, r3⟩
      have e0 : unk σ 0 = 0 := rfl
      rw [e0, Nat.pow_zero, Nat.div_one] at c1
      have F2 := c3.1
      unfold P_X6_fills_L56
      rw [if_neg (show ¬ I N ≤ I r by rw [I_leI (by omega) (by omega)]; omega), rc_24 F, a1, cvN, lt_eq, lt_eq]
      refine Eq.trans c1 ?_
      rw [rc_24 F2, hsn h2' c3, ciN, ← r1]
      rw [cnt_succ]
      unfold mfg
      by_cases he : hr (σ 1) (mfw σ r (σ 3)) 0 (σ 0) = hr (σ 1) (cur σ) 0 (σ 0)
      · rw [if_pos (by rw [he])]
        simp only [he, decide_true, if_true, lt_eq, l1, I_add]
      · rw [if_neg (by rw [I_eqI (by omega) (by omega)]; exact he)]
        simp only [he, decide_false, Bool.false_eq_true, if_false, lt_eq, l1, l0, I_add]
theorem fills_eq {σ : Nat → Nat} (W : WF σ) (row : Nat) : decide (enc (cfw σ row (unk σ (σ 3))) = enc (cur σ)) = mfg σ row := by
  have hcol := W.col
  have hn := W.1
  unfold mfg
  apply decide_eq_decide.mpr
  have hm : ∀ i, mfw σ row (σ 3) i < σ 1 := fun i => Nat.mod_lt _ (by omega)
  rw [← enc_congr (f := mfw σ row (σ 3)) (fun i _ => mfw_cfw W)]
  constructor
  · intro h
    have h1 := enc_inj (fun i _ => by have := hm i; omega) (fun i hi => by have := W.cur i hi; omega) h
    exact hr_congr _ _ (fun i _ hi => h1 i (by omega))
  · intro h
    have h1 := hr_inj (c := σ 1) (σ 0) 0 (fun i _ hi => ⟨hm i, W.cur i (by omega)⟩) h
    apply enc_congr
    intro i hi
    by_cases hin : i < σ 0
    · exact h1 i (Nat.zero_le _) (by omega)
    · have h3 := (W.2.2.2.2.2.2.2.2.2 i (by omega) hi).1
      have hz : cnt (fun j => tb1 σ (ps σ row j) i) (σ 3) = 0 := (cnt_0 _).mpr (fun j _ => by unfold tb1; simp [hin])
      unfold mfw cur
      rw [h3, hz, Nat.zero_mod]
theorem s_fills : Step (P_X5_fills 0) (P_X6_fills 24) := by
  intro h ⟨σ, im, n, t, ρ, G, C, M⟩
  have W := G.1
  have F := C.1
  have CC := C.2.1
  have h3 := W.2.2.2.1
  have h7 := W.2.2.1
  have hcol := W.col
  have hu := c_unknown F W CC
  have hul := unk_le σ (σ 3)
  by_cases h0 : unk σ (σ 3) ≤ 3
  · have pN : σ 2 ^ unk σ (σ 3) ≤ 20000 := by
      rcases Nat.eq_zero_or_pos (σ 2) with z | z
      · rw [z]
        rcases Nat.eq_zero_or_pos (unk σ (σ 3)) with u | u
        · rw [u]; decide
        · rw [Nat.zero_pow u]; omega
      · have a1 : σ 2 ^ unk σ (σ 3) ≤ σ 2 ^ 3 := Nat.pow_le_pow_right z h0
        have a2 : σ 2 ^ 3 ≤ 7 ^ 3 := Nat.pow_le_pow_left h7 3
        have a3 : (7 : Nat) ^ 3 = 343 := by decide
        omega
    have hz : 0 < σ 2 ^ unk σ (σ 3) → 0 < unk σ (σ 3) → 0 < σ 2 := fun a b => by
      rcases Nat.eq_zero_or_pos (σ 2) with z | z
      · rw [z, Nat.zero_pow b] at a; omega
      · exact z
    refine go_ok (Ac := []) (by simp) hAm2 G C M ⟨I (cnt (mfg σ) (σ 2 ^ unk σ (σ 3))), h, ?_, FxA.rf, fun h' M' => ?_⟩
    · have k2 := CC.1.2.2.1
      have ez : I 0 = I (enc zf) := rfl
      have hbl := c_behindLog F W CC (f := zf) (fun i _ => by unfold zf; omega)
      have hpo := c_power (h := h) (b := σ 2) (e := unk σ (σ 3)) (by omega)
      have hl := c_fills_L W F CC pN (show unk σ (σ 3) ≤ 10 by omega) hz (σ 2 ^ unk σ (σ 3)) 0 FU (by omega) (by have := FU_eq; omega)
      rw [← cnt_congr _ (fun r _ => fills_eq W r), ← hl]
      rw [← ez] at hbl
      unfold P_X5_fills
      rw [gr_0_1 F, rc_5 F, hu, ciN, lt_eq, if_pos (show I (unk σ (σ 3)) ≤ 3 by rw [l3]; rw [I_leI (by omega) (by decide)]; exact h0), gr_0_1 F, rc_5 F, l0, hbl, ciN, lt_eq, gr_0_1 F, gi_5 F, k2, hpo, ciN]
      rfl
    · have hu' := m_unknown W M'
      have hl21 := fun kont => m_fills_L21 W M' (U := unk σ (σ 3)) (by omega) kont (unk σ (σ 3)) 0 FU (by omega) (by have := FU_eq; omega)
      obtain ⟨h1, a1, a2, a3, a4⟩ := m_keeps (MSc M')
      obtain ⟨h2, r1, r2, r3⟩ := m_fills_L56 W pN hz (σ 2 ^ unk σ (σ 3)) 0 FU h1 (cur σ) (by omega) (by have := FU_eq; omega) a3 a4
      have hsn := m_stateNow W (MSc M') W.cur
      have A : FxA [26, 33] h' h2 := (a2.up (by simp)).tr (r2.up (by simp))
      have F' := M'.1
      refine ⟨h2, ?_, A, MS_uncur r3, e24_of A (by decide)⟩
      unfold P_X6_fills
      rw [rc_24 F', hu', ciN, lt_eq, if_pos (show I (unk σ (σ 3)) ≤ 3 by rw [l3]; rw [I_leI (by omega) (by decide)]; exact h0), lt_eq, lt_eq]
      refine Eq.trans (hl21 _) ?_
      rw [rc_24 F', hsn, ciN, lt_eq, lt_eq, rc_24 F', a1, cvN]
      exact r1
  · refine ref_ok (i := 6) (by decide) G C M ?_ (fun h' M' => ?_)
    · unfold P_X5_fills
      simp (disch := first | assumption | exact FX_setI ‹_› | exact FX_setI (FX_setI ‹_›) | exact FX_setI (FX_setI (FX_setI ‹_›)) | exact FX_setI (FX_setI (FX_setI (FX_setI ‹_›))) | omega) only [gr_0_0, gr_0_1, gr_0_2, gr_0_3, gr_0_4, gr_0_5, gr_0_6, gr_0_7, gr_1_0, gr_1_5, gr_1_7, gr_5_3, gr_5_9, gr_8_3, gr_8_9, gr_11_3, gr_11_9, gr_14_0, gr_14_1, gr_14_2, gr_18_0, gr_18_1, gr_18_2, gr_24_0, gr_24_1, gr_24_2, gr_24_3, gr_24_5, gr_24_6, gr_24_10, gr_24_11, gr_24_12, gr_24_15, al_2, al_3, al_4, al_7, al_10, al_13, al_15, al_16, al_17, al_19, al_20, al_21, al_22, al_23, al_25, al_26, al_27, al_28, al_29, al_30, al_31, al_32, al_33, al_34, as_2, as_3, as_4, as_7, as_10, as_13, as_15, as_16, as_17, as_19, as_20, as_21, as_22, as_23, as_25, as_26, as_27, as_28, as_29, as_30, as_31, as_32, as_33, as_34, gi_0, gi_1, gi_5, gi_8, gi_11, gi_14, gi_18, gi_24, pi_0, pi_1, pi_5, pi_8, pi_11, pi_14, pi_18, pi_24, rc_0, rc_1, rc_5, rc_8, rc_11, rc_14, rc_18, rc_24, ln_2, ln_3, ln_4, ln_7, ln_10, ln_13, ln_15, ln_16, ln_17, ln_19, ln_20, ln_21, ln_22, ln_23, ln_25, ln_26, ln_27, ln_28, ln_29, ln_30, ln_31, ln_32, ln_33, ln_34, ln_6, ln_9, ln_12, ciN, cvN, lt_eq, nn_none, nn_some, setI_1, setI_at, setI_R, upd2_at, I_add, I_addn, Int32.neg_neg, I_mul, I_ltI, I_leI, I_eqI, I_nat, if_true, if_false, reduceIte, reduceIteN, I_difn, bz_0, bz_1, nz_I, I_rem, I_div, I_sub, l4095, l32, l63, l0, l1, l2, l3, l4, l5, l6, l7, l8, l9, l10, l11, l12, l16, l24, l28, l31, l40, l48, l57, l64, l68, l78, l79, l99, l255, l2000, l2187, l1000000000, hu]
      rw [c_refuse F (show 6 < 7 by decide)]
      rfl
    · have hu' := m_unknown W M'.1
      have F' := M'.1.1
      unfold P_X6_fills
      simp (disch := first | assumption | exact FX_setI ‹_› | exact FX_setI (FX_setI ‹_›) | exact FX_setI (FX_setI (FX_setI ‹_›)) | exact FX_setI (FX_setI (FX_setI (FX_setI ‹_›))) | omega) only [gr_0_0, gr_0_1, gr_0_2, gr_0_3, gr_0_4, gr_0_5, gr_0_6, gr_0_7, gr_1_0, gr_1_5, gr_1_7, gr_5_3, gr_5_9, gr_8_3, gr_8_9, gr_11_3, gr_11_9, gr_14_0, gr_14_1, gr_14_2, gr_18_0, gr_18_1, gr_18_2, gr_24_0, gr_24_1, gr_24_2, gr_24_3, gr_24_5, gr_24_6, gr_24_10, gr_24_11, gr_24_12, gr_24_15, al_2, al_3, al_4, al_7, al_10, al_13, al_15, al_16, al_17, al_19, al_20, al_21, al_22, al_23, al_25, al_26, al_27, al_28, al_29, al_30, al_31, al_32, al_33, al_34, as_2, as_3, as_4, as_7, as_10, as_13, as_15, as_16, as_17, as_19, as_20, as_21, as_22, as_23, as_25, as_26, as_27, as_28, as_29, as_30, as_31, as_32, as_33, as_34, gi_0, gi_1, gi_5, gi_8, gi_11, gi_14, gi_18, gi_24, pi_0, pi_1, pi_5, pi_8, pi_11, pi_14, pi_18, pi_24, rc_0, rc_1, rc_5, rc_8, rc_11, rc_14, rc_18, rc_24, ln_2, ln_3, ln_4, ln_7, ln_10, ln_13, ln_15, ln_16, ln_17, ln_19, ln_20, ln_21, ln_22, ln_23, ln_25, ln_26, ln_27, ln_28, ln_29, ln_30, ln_31, ln_32, ln_33, ln_34, ln_6, ln_9, ln_12, ciN, cvN, lt_eq, nn_none, nn_some, setI_1, setI_at, setI_R, upd2_at, I_add, I_addn, Int32.neg_neg, I_mul, I_ltI, I_leI, I_eqI, I_nat, if_true, if_false, reduceIte, reduceIteN, I_difn, bz_0, bz_1, nz_I, I_rem, I_div, I_sub, l4095, l32, l63, l0, l1, l2, l3, l4, l5, l6, l7, l8, l9, l10, l11, l12, l16, l24, l28, l31, l40, l48, l57, l64, l68, l78, l79, l99, l255, l2000, l2187, l1000000000, hu']
      rw [m_refuse F' (show 6 < 7 by decide)]
      rfl
