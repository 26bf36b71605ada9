/-- how many are not judged -/
def uj (v : Nat → Nat) (N : Nat) : Nat := cnt (fun r => decide (v r = 2)) N
theorem uj_set {v : Nat → Nat} {N r x : Nat} (hr : r < N) (hv : v r = 2) (hx : x ≠ 2) : uj v N = uj (upn v r x) N + 1 := by
  unfold uj
  exact cnt_flip (f := fun i => decide (upn v r x i = 2)) (g := fun i => decide (v i = 2)) (r := r) (by simp [upn_at, hx]) (by simp [hv]) (fun i hi => by simp [upn_ne hi]) N hr
theorem m_match_L65 {σ : Nat → Nat} (W : WF σ) (hP : 0 < σ 2) : ∀ (k r m : Nat) (h : Hp) (v : Nat → Nat) (o : Nat), r + k = σ 1 ^ σ 2 → k < m → o ≤ 1 → MS h σ → WT h (σ 1 ^ σ 2) v → MJ (Gm σ) (nxd σ) (σ 2) (σ 1 ^ σ 2) v → (o = 0 → ∀ r', r' < r → v r' = 2 → Wo (nxd σ) (σ 2) v r' 2) →
    ∃ h' v' o', o' ≤ 1 ∧ (∀ kont, P_X6_match_L65 m 24 (I o) (I r) h kont = kont (I o') h') ∧ FxA [34] h h' ∧ MS h' σ ∧ WT h' (σ 1 ^ σ 2) v' ∧ MJ (Gm σ) (nxd σ) (σ 2) (σ 1 ^ σ 2) v' ∧ (o' = 0 → ∀ r', r' < σ 1 ^ σ 2 → v' r' = 2 → Wo (nxd σ) (σ 2) v' r' 2) ∧ uj v' (σ 1 ^ σ 2) ≤ uj v (σ 1 ^ σ 2) ∧ (o' = 1 → o = 1 ∨ uj v' (σ 1 ^ σ 2) < uj v (σ 1 ^ σ 2)) := by
  have hb := W.rows.1
  intro k
  induction k with
  | zero =>
    intro r m h v o hr hm ho M X J D
    cases m with
    | zero => omega
    | succ m =>
      have e : r = σ 1 ^ σ 2 := by omega
      have hro := m_rows W (MSc M)
      have F := M.1
      refine ⟨h, v, o, ho, fun kont => ?_, FxA.rf, M, X, J, by rw [← e]; exact D, Nat.le_refl _, fun z => Or.inl z⟩
      rw [e]
      unfold P_X6_match_L65
      simp (disch := first | assumption | exact FX_setI ‹_› | exact FX_setI (FX_setI ‹_›) | exact FX_setI (FX_setI (FX_setI ‹_›)) | exact FX_setI (FX_setI (FX_setI (FX_setI ‹_›))) | omega) only [gr_0_0, gr_0_1, gr_0_2, gr_0_3, gr_0_4, gr_0_5, gr_0_6, gr_0_7, gr_1_0, gr_1_5, gr_1_7, gr_5_3, gr_5_9, gr_8_3, gr_8_9, gr_11_3, gr_11_9, gr_14_0, gr_14_1, gr_14_2, gr_18_0, gr_18_1, gr_18_2, gr_24_0, gr_24_1, gr_24_2, gr_24_3, gr_24_5, gr_24_6, gr_24_10, gr_24_11, gr_24_12, gr_24_15, al_2, al_3, al_4, al_7, al_10, al_13, al_15, al_16, al_17, al_19, al_20, al_21, al_22, al_23, al_25, al_26, al_27, al_28, al_29, al_30, al_31, al_32, al_33, al_34, as_2, as_3, as_4, as_7, as_10, as_13, as_15, as_16, as_17, as_19, as_20, as_21, as_22, as_23, as_25, as_26, as_27, as_28, as_29, as_30, as_31, as_32, as_33, as_34, gi_0, gi_1, gi_5, gi_8, gi_11, gi_14, gi_18, gi_24, pi_0, pi_1, pi_5, pi_8, pi_11, pi_14, pi_18, pi_24, rc_0, rc_1, rc_5, rc_8, rc_11, rc_14, rc_18, rc_24, ln_2, ln_3, ln_4, ln_7, ln_10, ln_13, ln_15, ln_16, ln_17, ln_19, ln_20, ln_21, ln_22, ln_23, ln_25, ln_26, ln_27, ln_28, ln_29, ln_30, ln_31, ln_32, ln_33, ln_34, ln_6, ln_9, ln_12, ciN, cvN, lt_eq, nn_none, nn_some, setI_1, setI_at, setI_R, upd2_at, I_add, I_addn, Int32.neg_neg, I_mul, I_ltI, I_leI, I_eqI, I_nat, if_true, if_false, reduceIte, reduceIteN, I_difn, bz_0, bz_1, nz_I, I_rem, I_div, I_sub, l4095, l32, l63, l0, l1, l2, l3, l4, l5, l6, l7, l8, l9, l10, l11, l12, l16, l24, l28, l31, l40, l48, l57, l64, l68, l78, l79, l99, l255, l2000, l2187, l1000000000, hro]
  | succ k ih =>
    intro r m h v o hr hm ho M X J D
    cases m with
    | zero => omega
    | succ m =>
      have hrN : r < σ 1 ^ σ 2 := by omega
      have hro := m_rows W (MSc M)
      have F := M.1
      have hxr := X r hrN
      have hv2 := J.1 r hrN
      by_cases h2 : v r = 2
      · obtain ⟨x, x1, x2, x3⟩ := m_worthOf W M X J.1 hrN
        have X1 : WT (setI h 34 r (I x)) (σ 1 ^ σ 2) (upn v r x) := fun i hi => by
          rw [setI_at]
          by_cases h : i = r
          · rw [if_pos ⟨rfl, h⟩, h, upn_at]
          · rw [if_neg (fun z => h z.2), upn_ne h]
            exact X i hi
        have hxx : (setI h 34 r (I x)).2.1 34 r = I x := by rw [setI_at, if_pos ⟨rfl, rfl⟩]
        have F1 : FX (setI h 34 r (I x)) := F
        rw [h2] at hxr
        by_cases hx2 : x = 2
        · rw [hx2, upn_same h2] at X1
          rw [hx2] at x2 x3 hxx
          have D' : o = 0 → ∀ r', r' < r + 1 → v r' = 2 → Wo (nxd σ) (σ 2) v r' 2 := fun ho r' h1 hv => by
            by_cases e : r' = r
            · rw [e]; exact x2
            · exact D ho r' (by omega) hv
          obtain ⟨h', v', o', q0, q1, q2, q3, q4, q5, q6, q7, q8⟩ := ih (r + 1) m (setI h 34 r (I 2)) v o (by omega) (by omega) ho (MS_34 M) X1 J D'
          refine ⟨h', v', o', q0, fun kont => ?_, (FxA.set (by decide)).tr q2, q3, q4, q5, q6, q7, q8⟩
          have q1' := q1 kont
          have : o = 0 ∨ o = 1 := by omega
          rcases this with rfl | rfl
          · unfold P_X6_match_L65
            simp (disch := first | assumption | exact FX_setI ‹_› | exact FX_setI (FX_setI ‹_›) | exact FX_setI (FX_setI (FX_setI ‹_›)) | exact FX_setI (FX_setI (FX_setI (FX_setI ‹_›))) | omega) only [gr_0_0, gr_0_1, gr_0_2, gr_0_3, gr_0_4, gr_0_5, gr_0_6, gr_0_7, gr_1_0, gr_1_5, gr_1_7, gr_5_3, gr_5_9, gr_8_3, gr_8_9, gr_11_3, gr_11_9, gr_14_0, gr_14_1, gr_14_2, gr_18_0, gr_18_1, gr_18_2, gr_24_0, gr_24_1, gr_24_2, gr_24_3, gr_24_5, gr_24_6, gr_24_10, gr_24_11, gr_24_12, gr_24_15, al_2, al_3, al_4, al_7, al_10, al_13, al_15, al_16, al_17, al_19, al_20, al_21, al_22, al_23, al_25, al_26, al_27, al_28, al_29, al_30, al_31, al_32, al_33, al_34, as_2, as_3, as_4, as_7, as_10, as_13, as_15, as_16, as_17, as_19, as_20, as_21, as_22, as_23, as_25, as_26, as_27, as_28, as_29, as_30, as_31, as_32, as_33, as_34, gi_0, gi_1, gi_5, gi_8, gi_11, gi_14, gi_18, gi_24, pi_0, pi_1, pi_5, pi_8, pi_11, pi_14, pi_18, pi_24, rc_0, rc_1, rc_5, rc_8, rc_11, rc_14, rc_18, rc_24, ln_2, ln_3, ln_4, ln_7, ln_10, ln_13, ln_15, ln_16, ln_17, ln_19, ln_20, ln_21, ln_22, ln_23, ln_25, ln_26, ln_27, ln_28, ln_29, ln_30, ln_31, ln_32, ln_33, ln_34, ln_6, ln_9, ln_12, ciN, cvN, lt_eq, nn_none, nn_some, setI_1, setI_at, setI_R, upd2_at, I_add, I_addn, Int32.neg_neg, I_mul, I_ltI, I_leI, I_eqI, I_nat, if_true, if_false, reduceIte, reduceIteN, I_difn, bz_0, bz_1, nz_I, I_rem, I_div, I_sub, l4095, l32, l63, l0, l1, l2, l3, l4, l5, l6, l7, l8, l9, l10, l11, l12, l16, l24, l28, l31, l40, l48, l57, l64, l68, l78, l79, l99, l255, l2000, l2187, l1000000000, hro, hxr, x3, hxx]
            exact q1'
          · unfold P_X6_match_L65
            simp (disch := first | assumption | exact FX_setI ‹_› | exact FX_setI (FX_setI ‹_›) | exact FX_setI (FX_setI (FX_setI ‹_›)) | exact FX_setI (FX_setI (FX_setI (FX_setI ‹_›))) | omega) only [gr_0_0, gr_0_1, gr_0_2, gr_0_3, gr_0_4, gr_0_5, gr_0_6, gr_0_7, gr_1_0, gr_1_5, gr_1_7, gr_5_3, gr_5_9, gr_8_3, gr_8_9, gr_11_3, gr_11_9, gr_14_0, gr_14_1, gr_14_2, gr_18_0, gr_18_1, gr_18_2, gr_24_0, gr_24_1, gr_24_2, gr_24_3, gr_24_5, gr_24_6, gr_24_10, gr_24_11, gr_24_12, gr_24_15, al_2, al_3, al_4, al_7, al_10, al_13, al_15, al_16, al_17, al_19, al_20, al_21, al_22, al_23, al_25, al_26, al_27, al_28, al_29, al_30, al_31, al_32, al_33, al_34, as_2, as_3, as_4, as_7, as_10, as_13, as_15, as_16, as_17, as_19, as_20, as_21, as_22, as_23, as_25, as_26, as_27, as_28, as_29, as_30, as_31, as_32, as_33, as_34, gi_0, gi_1, gi_5, gi_8, gi_11, gi_14, gi_18, gi_24, pi_0, pi_1, pi_5, pi_8, pi_11, pi_14, pi_18, pi_24, rc_0, rc_1, rc_5, rc_8, rc_11, rc_14, rc_18, rc_24, ln_2, ln_3, ln_4, ln_7, ln_10, ln_13, ln_15, ln_16, ln_17, ln_19, ln_20, ln_21, ln_22, ln_23, ln_25, ln_26, ln_27, ln_28, ln_29, ln_30, ln_31, ln_32, ln_33, ln_34, ln_6, ln_9, ln_12, ciN, cvN, lt_eq, nn_none, nn_some, setI_1, setI_at, setI_R, upd2_at, I_add, I_addn, Int32.neg_neg, I_mul, I_ltI, I_leI, I_eqI, I_nat, if_true, if_false, reduceIte, reduceIteN, I_difn, bz_0, bz_1, nz_I, I_rem, I_div, I_sub, l4095, l32, l63, l0, l1, l2, l3, l4, l5, l6, l7, l8, l9, l10, l11, l12, l16, l24, l28, l31, l40, l48, l57, l64, l68, l78, l79, l99, l255, l2000, l2187, l1000000000, hro, hxr, x3, hxx]
            exact q1'
        · have J1 := (mj_set (nxd_lt W) hP J hrN h2 x2 hx2).2
          have hu := uj_set hrN h2 hx2
          obtain ⟨h', v', o', q0, q1, q2, q3, q4, q5, q6, q7, q8⟩ := ih (r + 1) m (setI h 34 r (I x)) (upn v r x) 1 (by omega) (by omega) (by omega) (MS_34 M) X1 J1 (fun z => by omega)
          refine ⟨h', v', o', q0, fun kont => ?_, (FxA.set (by decide)).tr q2, q3, q4, q5, q6, by omega, fun _ => Or.inr (by omega)⟩
          have q1' := q1 kont
          have : o = 0 ∨ o = 1 := by omega
          rcases this with rfl | rfl
          · unfold P_X6_match_L65
            simp (disch := first | assumption | exact FX_setI ‹_› | exact FX_setI (FX_setI ‹_›) | exact FX_setI (FX_setI (FX_setI ‹_›)) | exact FX_setI (FX_setI (FX_setI (FX_setI ‹_›))) | omega) only [gr_0_0, gr_0_1, gr_0_2, gr_0_3, gr_0_4, gr_0_5, gr_0_6, gr_0_7, gr_1_0, gr_1_5, gr_1_7, gr_5_3, gr_5_9, gr_8_3, gr_8_9, gr_11_3, gr_11_9, gr_14_0, gr_14_1, gr_14_2, gr_18_0, gr_18_1, gr_18_2, gr_24_0, gr_24_1, gr_24_2, gr_24_3, gr_24_5, gr_24_6, gr_24_10, gr_24_11, gr_24_12, gr_24_15, al_2, al_3, al_4, al_7, al_10, al_13, al_15, al_16, al_17, al_19, al_20, al_21, al_22, al_23, al_25, al_26, al_27, al_28, al_29, al_30, al_31, al_32, al_33, al_34, as_2, as_3, as_4, as_7, as_10, as_13, as_15, as_16, as_17, as_19, as_20, as_21, as_22, as_23, as_25, as_26, as_27, as_28, as_29, as_30, as_31, as_32, as_33, as_34, gi_0, gi_1, gi_5, gi_8, gi_11, gi_14, gi_18, gi_24, pi_0, pi_1, pi_5, pi_8, pi_11, pi_14, pi_18, pi_24, rc_0, rc_1, rc_5, rc_8, rc_11, rc_14, rc_18, rc_24, ln_2, ln_3, ln_4, ln_7, ln_10, ln_13, ln_15, ln_16, ln_17, ln_19, ln_20, ln_21, ln_22, ln_23, ln_25, ln_26, ln_27, ln_28, ln_29, ln_30, ln_31, ln_32, ln_33, ln_34, ln_6, ln_9, ln_12, ciN, cvN, lt_eq, nn_none, nn_some, setI_1, setI_at, setI_R, upd2_at, I_add, I_addn, Int32.neg_neg, I_mul, I_ltI, I_leI, I_eqI, I_nat, if_true, if_false, reduceIte, reduceIteN, I_difn, bz_0, bz_1, nz_I, I_rem, I_div, I_sub, l4095, l32, l63, l0, l1, l2, l3, l4, l5, l6, l7, l8, l9, l10, l11, l12, l16, l24, l28, l31, l40, l48, l57, l64, l68, l78, l79, l99, l255, l2000, l2187, l1000000000, hro, hxr, x3, hxx, hx2, and_self]
            exact q1'
          · unfold P_X6_match_L65
            simp (disch := first | assumption | exact FX_setI ‹_› | exact FX_setI (FX_setI ‹_›) | exact FX_setI (FX_setI (FX_setI ‹_›)) | exact FX_setI (FX_setI (FX_setI (FX_setI ‹_›))) | omega) only [gr_0_0, gr_0_1, gr_0_2, gr_0_3, gr_0_4, gr_0_5, gr_0_6, gr_0_7, gr_1_0, gr_1_5, gr_1_7, gr_5_3, gr_5_9, gr_8_3, gr_8_9, gr_11_3, gr_11_9, gr_14_0, gr_14_1, gr_14_2, gr_18_0, gr_18_1, gr_18_2, gr_24_0, gr_24_1, gr_24_2, gr_24_3, gr_24_5, gr_24_6, gr_24_10, gr_24_11, gr_24_12, gr_24_15, al_2, al_3, al_4, al_7, al_10, al_13, al_15, al_16, al_17, al_19, al_20, al_21, al_22, al_23, al_25, al_26, al_27, al_28, al_29, al_30, al_31, al_32, al_33, al_34, as_2, as_3, as_4, as_7, as_10, as_13, as_15, as_16, as_17, as_19, as_20, as_21, as_22, as_23, as_25, as_26, as_27, as_28, as_29, as_30, as_31, as_32, as_33, as_34, gi_0, gi_1, gi_5, gi_8, gi_11, gi_14, gi_18, gi_24, pi_0, pi_1, pi_5, pi_8, pi_11, pi_14, pi_18, pi_24, rc_0, rc_1, rc_5, rc_8, rc_11, rc_14, rc_18, rc_24, ln_2, ln_3, ln_4, ln_7, ln_10, ln_13, ln_15, ln_16, ln_17, ln_19, ln_20, ln_21, ln_22, ln_23, ln_25, ln_26, ln_27, ln_28, ln_29, ln_30, ln_31, ln_32, ln_33, ln_34, ln_6, ln_9, ln_12, ciN, cvN, lt_eq, nn_none, nn_some, setI_1, setI_at, setI_R, upd2_at, I_add, I_addn, Int32.neg_neg, I_mul, I_ltI, I_leI, I_eqI, I_nat, if_true, if_false, reduceIte, reduceIteN, I_difn, bz_0, bz_1, nz_I, I_rem, I_div, I_sub, l4095, l32, l63, l0, l1, l2, l3, l4, l5, l6, l7, l8, l9, l10, l11, l12, l16, l24, l28, l31, l40, l48, l57, l64, l68, l78, l79, l99, l255, l2000, l2187, l1000000000, hro, hxr, x3, hxx, hx2, and_self]
            exact q1'
      · have D' : o = 0 → ∀ r', r' < r + 1 → v r' = 2 → Wo (nxd σ) (σ 2) v r' 2 := fun ho r' h1 hv => by
          by_cases e : r' = r
          · rw [e] at hv; exact absurd hv h2
          · exact D ho r' (by omega) hv
        obtain ⟨h', v', o', q0, q1, q2, q3, q4, q5, q6, q7, q8⟩ := ih (r + 1) m h v o (by omega) (by omega) ho M X J D'
        refine ⟨h', v', o', q0, fun kont => ?_, q2, q3, q4, q5, q6, q7, q8⟩
        have q1' := q1 kont
        unfold P_X6_match_L65
        simp (disch := first | assumption | exact FX_setI ‹_› | exact FX_setI (FX_setI ‹_›) | exact FX_setI (FX_setI (FX_setI ‹_›)) | exact FX_setI (FX_setI (FX_setI (FX_setI ‹_›))) | omega) only [gr_0_0, gr_0_1, gr_0_2, gr_0_3, gr_0_4, gr_0_5, gr_0_6, gr_0_7, gr_1_0, gr_1_5, gr_1_7, gr_5_3, gr_5_9, gr_8_3, gr_8_9, gr_11_3, gr_11_9, gr_14_0, gr_14_1, gr_14_2, gr_18_0, gr_18_1, gr_18_2, gr_24_0, gr_24_1, gr_24_2, gr_24_3, gr_24_5, gr_24_6, gr_24_10, gr_24_11, gr_24_12, gr_24_15, al_2, al_3, al_4, al_7, al_10, al_13, al_15, al_16, al_17, al_19, al_20, al_21, al_22, al_23, al_25, al_26, al_27, al_28, al_29, al_30, al_31, al_32, al_33, al_34, as_2, as_3, as_4, as_7, as_10, as_13, as_15, as_16, as_17, as_19, as_20, as_21, as_22, as_23, as_25, as_26, as_27, as_28, as_29, as_30, as_31, as_32, as_33, as_34, gi_0, gi_1, gi_5, gi_8, gi_11, gi_14, gi_18, gi_24, pi_0, pi_1, pi_5, pi_8, pi_11, pi_14, pi_18, pi_24, rc_0, rc_1, rc_5, rc_8, rc_11, rc_14, rc_18, rc_24, ln_2, ln_3, ln_4, ln_7, ln_10, ln_13, ln_15, ln_16, ln_17, ln_19, ln_20, ln_21, ln_22, ln_23, ln_25, ln_26, ln_27, ln_28, ln_29, ln_30, ln_31, ln_32, ln_33, ln_34, ln_6, ln_9, ln_12, ciN, cvN, lt_eq, nn_none, nn_some, setI_1, setI_at, setI_R, upd2_at, I_add, I_addn, Int32.neg_neg, I_mul, I_ltI, I_leI, I_eqI, I_nat, if_true, if_false, reduceIte, reduceIteN, I_difn, bz_0, bz_1, nz_I, I_rem, I_div, I_sub, l4095, l32, l63, l0, l1, l2, l3, l4, l5, l6, l7, l8, l9, l10, l11, l12, l16, l24, l28, l31, l40, l48, l57, l64, l68, l78, l79, l99, l255, l2000, l2187, l1000000000, hro, hxr, h2]
        exact q1'
theorem m_match_L57 {σ : Nat → Nat} (W : WF σ) (hP : 0 < σ 2) : ∀ (k m : Nat) (h : Hp) (v : Nat → Nat), uj v (σ 1 ^ σ 2) ≤ k → k + 2 ≤ m → MS h σ → WT h (σ 1 ^ σ 2) v → MJ (Gm σ) (nxd σ) (σ 2) (σ 1 ^ σ 2) v →
    ∃ h' v', P_X6_match_L57 m 24 (I 1) h = some (I (v' 0), h') ∧ FxA [34] h h' ∧ MS h' σ ∧ Fw (Gm σ) (nxd σ) (σ 2) (σ 1 ^ σ 2) v' ∧ Bel (Gm σ) (nxd σ) (σ 2) (σ 1 ^ σ 2) v' := by
  have hb := W.rows
  intro k
  induction k with
  | zero =>
    intro m h v hu hm M X J
    obtain ⟨m, rfl⟩ : ∃ m', m = m' + 2 := ⟨m - 2, by omega⟩
    have F := M.1
    obtain ⟨h', v', o', q0, q1, q2, q3, q4, q5, q6, q7, q8⟩ := m_match_L65 W hP (σ 1 ^ σ 2) 0 FU h v 0 (by omega) (by have := FU_eq; omega) (by omega) M X J (fun _ r' h => by omega)
    have ho : o' = 0 := by
      by_cases e : o' = 1
      · have := q8 e; omega
      · omega
    subst ho
    have F' := q3.1
    have hx := q4 0 (by omega)
    refine ⟨h', v', ?_, q2, q3, mj_fix q5 (q6 rfl), q5.2.1⟩
    unfold P_X6_match_L57
    simp (disch := first | assumption | exact FX_setI ‹_› | exact FX_setI (FX_setI ‹_›) | exact FX_setI (FX_setI (FX_setI ‹_›)) | exact FX_setI (FX_setI (FX_setI (FX_setI ‹_›))) | omega) only [gr_0_0, gr_0_1, gr_0_2, gr_0_3, gr_0_4, gr_0_5, gr_0_6, gr_0_7, gr_1_0, gr_1_5, gr_1_7, gr_5_3, gr_5_9, gr_8_3, gr_8_9, gr_11_3, gr_11_9, gr_14_0, gr_14_1, gr_14_2, gr_18_0, gr_18_1, gr_18_2, gr_24_0, gr_24_1, gr_24_2, gr_24_3, gr_24_5, gr_24_6, gr_24_10, gr_24_11, gr_24_12, gr_24_15, al_2, al_3, al_4, al_7, al_10, al_13, al_15, al_16, al_17, al_19, al_20, al_21, al_22, al_23, al_25, al_26, al_27, al_28, al_29, al_30, al_31, al_32, al_33, al_34, as_2, as_3, as_4, as_7, as_10, as_13, as_15, as_16, as_17, as_19, as_20, as_21, as_22, as_23, as_25, as_26, as_27, as_28, as_29, as_30, as_31, as_32, as_33, as_34, gi_0, gi_1, gi_5, gi_8, gi_11, gi_14, gi_18, gi_24, pi_0, pi_1, pi_5, pi_8, pi_11, pi_14, pi_18, pi_24, rc_0, rc_1, rc_5, rc_8, rc_11, rc_14, rc_18, rc_24, ln_2, ln_3, ln_4, ln_7, ln_10, ln_13, ln_15, ln_16, ln_17, ln_19, ln_20, ln_21, ln_22, ln_23, ln_25, ln_26, ln_27, ln_28, ln_29, ln_30, ln_31, ln_32, ln_33, ln_34, ln_6, ln_9, ln_12, ciN, cvN, lt_eq, nn_none, nn_some, setI_1, setI_at, setI_R, upd2_at, I_add, I_addn, Int32.neg_neg, I_mul, I_ltI, I_leI, I_eqI, I_nat, if_true, if_false, reduceIte, reduceIteN, I_difn, bz_0, bz_1, nz_I, I_rem, I_div, I_sub, l4095, l32, l63, l0, l1, l2, l3, l4, l5, l6, l7, l8, l9, l10, l11, l12, l16, l24, l28, l31, l40, l48, l57, l64, l68, l78, l79, l99, l255, l2000, l2187, l1000000000, q1]
    unfold P_X6_match_L57
    simp (disch := first | assumption | exact FX_setI ‹_› | exact FX_setI (FX_setI ‹_›) | exact FX_setI (FX_setI (FX_setI ‹_›)) | exact FX_setI (FX_setI (FX_setI (FX_setI ‹_›))) | omega) only [gr_0_0, gr_0_1, gr_0_2, gr_0_3, gr_0_4, gr_0_5, gr_0_6, gr_0_7, gr_1_0, gr_1_5, gr_1_7, gr_5_3, gr_5_9, gr_8_3, gr_8_9, gr_11_3, gr_11_9, gr_14_0, gr_14_1, gr_14_2, gr_18_0, gr_18_1, gr_18_2, gr_24_0, gr_24_1, gr_24_2, gr_24_3, gr_24_5, gr_24_6, gr_24_10, gr_24_11, gr_24_12, gr_24_15, al_2, al_3, al_4, al_7, al_10, al_13, al_15, al_16, al_17, al_19, al_20, al_21, al_22, al_23, al_25, al_26, al_27, al_28, al_29, al_30, al_31, al_32, al_33, al_34, as_2, as_3, as_4, as_7, as_10, as_13, as_15, as_16, as_17, as_19, as_20, as_21, as_22, as_23, as_25, as_26, as_27, as_28, as_29, as_30, as_31, as_32, as_33, as_34, gi_0, gi_1, gi_5, gi_8, gi_11, gi_14, gi_18, gi_24, pi_0, pi_1, pi_5, pi_8, pi_11, pi_14, pi_18, pi_24, rc_0, rc_1, rc_5, rc_8, rc_11, rc_14, rc_18, rc_24, ln_2, ln_3, ln_4, ln_7, ln_10, ln_13, ln_15, ln_16, ln_17, ln_19, ln_20, ln_21, ln_22, ln_23, ln_25, ln_26, ln_27, ln_28, ln_29, ln_30, ln_31, ln_32, ln_33, ln_34, ln_6, ln_9, ln_12, ciN, cvN, lt_eq, nn_none, nn_some, setI_1, setI_at, setI_R, upd2_at, I_add, I_addn, Int32.neg_neg, I_mul, I_ltI, I_leI, I_eqI, I_nat, if_true, if_false, reduceIte, reduceIteN, I_difn, bz_0, bz_1, nz_I, I_rem, I_div, I_sub, l4095, l32, l63, l0, l1, l2, l3, l4, l5, l6, l7, l8, l9, l10, l11, l12, l16, l24, l28, l31, l40, l48, l57, l64, l68, l78, l79, l99, l255, l2000, l2187, l1000000000, hx]
  | succ k ih =>
    intro m h v hu hm M X J
    obtain ⟨m, rfl⟩ : ∃ m', m = m' + 2 := ⟨m - 2, by omega⟩
    have F := M.1
    obtain ⟨h', v', o', q0, q1, q2, q3, q4, q5, q6, q7, q8⟩ := m_match_L65 W hP (σ 1 ^ σ 2) 0 FU h v 0 (by omega) (by have := FU_eq; omega) (by omega) M X J (fun _ r' h => by omega)
    have F' := q3.1
    have hx := q4 0 (by omega)
    by_cases e : o' = 1
    · subst e
      obtain ⟨h2, v2, r1, r2, r3, r4, r5⟩ := ih (m + 1) h' v' (by have := q8 rfl; omega) (by omega) q3 q4 q5
      refine ⟨h2, v2, ?_, q2.tr r2, r3, r4, r5⟩
      unfold P_X6_match_L57
      simp (disch := first | assumption | exact FX_setI ‹_› | exact FX_setI (FX_setI ‹_›) | exact FX_setI (FX_setI (FX_setI ‹_›)) | exact FX_setI (FX_setI (FX_setI (FX_setI ‹_›))) | omega) only [gr_0_0, gr_0_1, gr_0_2, gr_0_3, gr_0_4, gr_0_5, gr_0_6, gr_0_7, gr_1_0, gr_1_5, gr_1_7, gr_5_3, gr_5_9, gr_8_3, gr_8_9, gr_11_3, gr_11_9, gr_14_0, gr_14_1, gr_14_2, gr_18_0, gr_18_1, gr_18_2, gr_24_0, gr_24_1, gr_24_2, gr_24_3, gr_24_5, gr_24_6, gr_24_10, gr_24_11, gr_24_12, gr_24_15, al_2, al_3, al_4, al_7, al_10, al_13, al_15, al_16, al_17, al_19, al_20, al_21, al_22, al_23, al_25, al_26, al_27, al_28, al_29, al_30, al_31, al_32, al_33, al_34, as_2, as_3, as_4, as_7, as_10, as_13, as_15, as_16, as_17, as_19, as_20, as_21, as_22, as_23, as_25, as_26, as_27, as_28, as_29, as_30, as_31, as_32, as_33, as_34, gi_0, gi_1, gi_5, gi_8, gi_11, gi_14, gi_18, gi_24, pi_0, pi_1, pi_5, pi_8, pi_11, pi_14, pi_18, pi_24, rc_0, rc_1, rc_5, rc_8, rc_11, rc_14, rc_18, rc_24, ln_2, ln_3, ln_4, ln_7, ln_10, ln_13, ln_15, ln_16, ln_17, ln_19, ln_20, ln_21, ln_22, ln_23, ln_25, ln_26, ln_27, ln_28, ln_29, ln_30, ln_31, ln_32, ln_33, ln_34, ln_6, ln_9, ln_12, ciN, cvN, lt_eq, nn_none, nn_some, setI_1, setI_at, setI_R, upd2_at, I_add, I_addn, Int32.neg_neg, I_mul, I_ltI, I_leI, I_eqI, I_nat, if_true, if_false, reduceIte, reduceIteN, I_difn, bz_0, bz_1, nz_I, I_rem, I_div, I_sub, l4095, l32, l63, l0, l1, l2, l3, l4, l5, l6, l7, l8, l9, l10, l11, l12, l16, l24, l28, l31, l40, l48, l57, l64, l68, l78, l79, l99, l255, l2000, l2187, l1000000000, q1]
      exact r1
    · have ho : o' = 0 := by omega
      subst ho
      refine ⟨h', v', ?_, q2, q3, mj_fix q5 (q6 rfl), q5.2.1⟩
      unfold P_X6_match_L57
      simp (disch := first | assumption | exact FX_setI ‹_› | exact FX_setI (FX_setI ‹_›) | exact FX_setI (FX_setI (FX_setI ‹_›)) | exact FX_setI (FX_setI (FX_setI (FX_setI ‹_›))) | omega) only [gr_0_0, gr_0_1, gr_0_2, gr_0_3, gr_0_4, gr_0_5, gr_0_6, gr_0_7, gr_1_0, gr_1_5, gr_1_7, gr_5_3, gr_5_9, gr_8_3, gr_8_9, gr_11_3, gr_11_9, gr_14_0, gr_14_1, gr_14_2, gr_18_0, gr_18_1, gr_18_2, gr_24_0, gr_24_1, gr_24_2, gr_24_3, gr_24_5, gr_24_6, gr_24_10, gr_24_11, gr_24_12, gr_24_15, al_2, al_3, al_4, al_7, al_10, al_13, al_15, al_16, al_17, al_19, al_20, al_21, al_22, al_23, al_25, al_26, al_27, al_28, al_29, al_30, al_31, al_32, al_33, al_34, as_2, as_3, as_4, as_7, as_10, as_13, as_15, as_16, as_17, as_19, as_20, as_21, as_22, as_23, as_25, as_26, as_27, as_28, as_29, as_30, as_31, as_32, as_33, as_34, gi_0, gi_1, gi_5, gi_8, gi_11, gi_14, gi_18, gi_24, pi_0, pi_1, pi_5, pi_8, pi_11, pi_14, pi_18, pi_24, rc_0, rc_1, rc_5, rc_8, rc_11, rc_14, rc_18, rc_24, ln_2, ln_3, ln_4, ln_7, ln_10, ln_13, ln_15, ln_16, ln_17, ln_19, ln_20, ln_21, ln_22, ln_23, ln_25, ln_26, ln_27, ln_28, ln_29, ln_30, ln_31, ln_32, ln_33, ln_34, ln_6, ln_9, ln_12, ciN, cvN, lt_eq, nn_none, nn_some, setI_1, setI_at, setI_R, upd2_at, I_add, I_addn, Int32.neg_neg, I_mul, I_ltI, I_leI, I_eqI, I_nat, if_true, if_false, reduceIte, reduceIteN, I_difn, bz_0, bz_1, nz_I, I_rem, I_div, I_sub, l4095, l32, l63, l0, l1, l2, l3, l4, l5, l6, l7, l8, l9, l10, l11, l12, l16, l24, l28, l31, l40, l48, l57, l64, l68, l78, l79, l99, l255, l2000, l2187, l1000000000, q1]
      unfold P_X6_match_L57
      simp (disch := first | assumption | exact FX_setI ‹_› | exact FX_setI (FX_setI ‹_›) | exact FX_setI (FX_setI (FX_setI ‹_›)) | exact FX_setI (FX_setI (FX_setI (FX_setI ‹_›))) | omega) only [gr_0_0, gr_0_1, gr_0_2, gr_0_3, gr_0_4, gr_0_5, gr_0_6, gr_0_7, gr_1_0, gr_1_5, gr_1_7, gr_5_3, gr_5_9, gr_8_3, gr_8_9, gr_11_3, gr_11_9, gr_14_0, gr_14_1, gr_14_2, gr_18_0, gr_18_1, gr_18_2, gr_24_0, gr_24_1, gr_24_2, gr_24_3, gr_24_5, gr_24_6, gr_24_10, gr_24_11, gr_24_12, gr_24_15, al_2, al_3, al_4, al_7, al_10, al_13, al_15, al_16, al_17, al_19, al_20, al_21, al_22, al_23, al_25, al_26, al_27, al_28, al_29, al_30, al_31, al_32, al_33, al_34, as_2, as_3, as_4, as_7, as_10, as_13, as_15, as_16, as_17, as_19, as_20, as_21, as_22, as_23, as_25, as_26, as_27, as_28, as_29, as_30, as_31, as_32, as_33, as_34, gi_0, gi_1, gi_5, gi_8, gi_11, gi_14, gi_18, gi_24, pi_0, pi_1, pi_5, pi_8, pi_11, pi_14, pi_18, pi_24, rc_0, rc_1, rc_5, rc_8, rc_11, rc_14, rc_18, rc_24, ln_2, ln_3, ln_4, ln_7, ln_10, ln_13, ln_15, ln_16, ln_17, ln_19, ln_20, ln_21, ln_22, ln_23, ln_25, ln_26, ln_27, ln_28, ln_29, ln_30, ln_31, ln_32, ln_33, ln_34, ln_6, ln_9, ln_12, ciN, cvN, lt_eq, nn_none, nn_some, setI_1, setI_at, setI_R, upd2_at, I_add, I_addn, Int32.neg_neg, I_mul, I_ltI, I_leI, I_eqI, I_nat, if_true, if_false, reduceIte, reduceIteN, I_difn, bz_0, bz_1, nz_I, I_rem, I_div, I_sub, l4095, l32, l63, l0, l1, l2, l3, l4, l5, l6, l7, l8, l9, l10, l11, l12, l16, l24, l28, l31, l40, l48, l57, l64, l68, l78, l79, l99, l255, l2000, l2187, l1000000000, hx]
/-- the judgement, told in the other order of the digits -/
theorem G_rv {σ : Nat → Nat} (W : WF σ) {r : Nat} (hr : r < σ 1 ^ σ 2) : Gc σ r = Gm σ (rv (σ 1) (σ 2) r) := wsd_congr (cw_rv W hr)
theorem fw_iso {G G' : Nat → Bool} {nx nx' : Nat → Nat → Nat} {P N : Nat} {ρ : Nat → Nat} (h1 : ∀ r, r < N → ρ r < N) (hG : ∀ r, r < N → G (ρ r) = G' r) (hn : ∀ r p, r < N → p < P → nx (ρ r) p = ρ (nx' r p)) {v : Nat → Nat} (h : Fw G nx P N v) : Fw G' nx' P N (fun r => v (ρ r)) := by
  intro r hr
  obtain ⟨a, b⟩ := h _ (h1 r hr)
  refine ⟨fun hg => a (by rw [hG r hr]; exact hg), fun hg => ?_⟩
  rcases b (by rw [hG r hr]; exact hg) with ⟨b1, p, hp, b2⟩ | ⟨b1, b2⟩ | ⟨b1, b2, p, hp, b3⟩
  · exact Or.inl ⟨b1, p, hp, by show v (ρ (nx' r p)) = 0; rw [← hn r p hr hp]; exact b2⟩
  · exact Or.inr (Or.inl ⟨b1, fun p hp => by have := b2 p hp; rw [hn r p hr hp] at this; exact this⟩)
  · exact Or.inr (Or.inr ⟨b1, fun p hp => by have := b2 p hp; rw [hn r p hr hp] at this; exact this, p, hp, by show v (ρ (nx' r p)) ≠ 1; rw [← hn r p hr hp]; exact b3⟩)
theorem rv_z (c : Nat) : ∀ n, rv c n 0 = 0
  | 0 => rfl
  | n + 1 => by rw [rv_succ, Nat.zero_div, Nat.zero_mod, rv_z c n]; rfl
theorem match_eq {σ : Nat → Nat} (W : WF σ) {vc vm : Nat → Nat} (hc : Fw (Gc σ) (nxc σ) (σ 2) (σ 1 ^ σ 2) vc) (bc : Bel (Gc σ) (nxc σ) (σ 2) (σ 1 ^ σ 2) vc) (hm : Fw (Gm σ) (nxd σ) (σ 2) (σ 1 ^ σ 2) vm) (bm : Bel (Gm σ) (nxd σ) (σ 2) (σ 1 ^ σ 2) vm) : vm 0 = vc 0 := by
  have hcol := W.col
  have hb := W.rows
  have l1 : ∀ r, r < σ 1 ^ σ 2 → rv (σ 1) (σ 2) r < σ 1 ^ σ 2 := fun r hr => rv_lt (by omega) (σ 2) r hr
  have f1 := fw_iso (G' := Gm σ) (nx' := nxd σ) (ρ := rv (σ 1) (σ 2)) l1 (fun r hr => by rw [G_rv W (l1 r hr), rv_rv (by omega) hr]) (fun r p hr hp => (rv_nx W.2.1 hr hp).symm) hc
  have f2 := fw_iso (G' := Gc σ) (nx' := nxc σ) (ρ := rv (σ 1) (σ 2)) l1 (fun r hr => (G_rv W hr).symm) (fun r p hr hp => by
    unfold nxd nxc
    rw [rv_nx W.2.1 hr (by omega), show σ 2 - 1 - (σ 2 - 1 - p) = p by omega]) hm
  by_cases h : vm 0 = 2
  · by_cases h2 : vc 0 = 2
    · rw [h, h2]
    · have := bc _ f2 0 (by omega) h2
      rw [rv_z] at this
      exact this
  · have := bm _ f1 0 (by omega) h
    rw [rv_z] at this
    exact this.symm
theorem cw_0 {σ : Nat → Nat} (W : WF σ) : Gm σ 0 = wsd σ (cur σ) := by
  have hcol := W.col
  refine wsd_congr (fun i hi => ?_)
  have h1 : ∀ p, dgt (σ 1) 0 p = 0 := fun p => by unfold dgt; rw [Nat.zero_div, Nat.zero_mod]
  have h2 : ∀ n, sm (fun p => if tb1 σ p i then dgt (σ 1) 0 p else 0) n = 0 := by
    intro n
    induction n with
    | zero => rfl
    | succ n ih =>
      rw [sm_succ, ih]
      cases tb1 σ n i <;> simp [h1]
  unfold mw wy
  rw [h2, Nat.add_zero, Nat.mod_eq_of_lt (W.cur i hi)]
theorem G_00 {σ : Nat → Nat} (W : WF σ) : Gc σ 0 = wsd σ (cur σ) := by
  rw [G_rv W W.rows.2, rv_z, cw_0 W]
theorem m_match {σ : Nat → Nat} {h : Hp} (W : WF σ) (M : MS h σ) {vc : Nat → Nat} (hc : 0 < σ 2 → Fw (Gc σ) (nxc σ) (σ 2) (σ 1 ^ σ 2) vc ∧ Bel (Gc σ) (nxc σ) (σ 2) (σ 1 ^ σ 2) vc) (h0 : σ 2 = 0 → vc 0 = v0 (Gc σ) 0) :
    ∃ h', P_X6_match 24 h = some (I (vc 0), h') ∧ FxA [26, 33, 34] h h' ∧ MS h' σ := by
  have hb := W.rows
  have h7 := W.2.2.1
  have hs := m_isWished W (MSc M) (fun i hi => by have := cur3 W i hi; omega)
  have F := M.1
  have s2 := M.2 2 (by decide)
  have g0 := G_00 W
  cases hw : wsd σ (cur σ)
  · rw [hw, if_neg Bool.false_ne_true] at hs
    by_cases hP : σ 2 = 0
    · refine ⟨h, ?_, FxA.rf, M⟩
      rw [h0 hP, v0_f (by rw [g0, hw])]
      unfold P_X6_match
      simp (disch := first | assumption | exact FX_setI ‹_› | exact FX_setI (FX_setI ‹_›) | exact FX_setI (FX_setI (FX_setI ‹_›)) | exact FX_setI (FX_setI (FX_setI (FX_setI ‹_›))) | omega) only [gr_0_0, gr_0_1, gr_0_2, gr_0_3, gr_0_4, gr_0_5, gr_0_6, gr_0_7, gr_1_0, gr_1_5, gr_1_7, gr_5_3, gr_5_9, gr_8_3, gr_8_9, gr_11_3, gr_11_9, gr_14_0, gr_14_1, gr_14_2, gr_18_0, gr_18_1, gr_18_2, gr_24_0, gr_24_1, gr_24_2, gr_24_3, gr_24_5, gr_24_6, gr_24_10, gr_24_11, gr_24_12, gr_24_15, al_2, al_3, al_4, al_7, al_10, al_13, al_15, al_16, al_17, al_19, al_20, al_21, al_22, al_23, al_25, al_26, al_27, al_28, al_29, al_30, al_31, al_32, al_33, al_34, as_2, as_3, as_4, as_7, as_10, as_13, as_15, as_16, as_17, as_19, as_20, as_21, as_22, as_23, as_25, as_26, as_27, as_28, as_29, as_30, as_31, as_32, as_33, as_34, gi_0, gi_1, gi_5, gi_8, gi_11, gi_14, gi_18, gi_24, pi_0, pi_1, pi_5, pi_8, pi_11, pi_14, pi_18, pi_24, rc_0, rc_1, rc_5, rc_8, rc_11, rc_14, rc_18, rc_24, ln_2, ln_3, ln_4, ln_7, ln_10, ln_13, ln_15, ln_16, ln_17, ln_19, ln_20, ln_21, ln_22, ln_23, ln_25, ln_26, ln_27, ln_28, ln_29, ln_30, ln_31, ln_32, ln_33, ln_34, ln_6, ln_9, ln_12, ciN, cvN, lt_eq, nn_none, nn_some, setI_1, setI_at, setI_R, upd2_at, I_add, I_addn, Int32.neg_neg, I_mul, I_ltI, I_leI, I_eqI, I_nat, if_true, if_false, reduceIte, reduceIteN, I_difn, bz_0, bz_1, nz_I, I_rem, I_div, I_sub, l4095, l32, l63, l0, l1, l2, l3, l4, l5, l6, l7, l8, l9, l10, l11, l12, l16, l24, l28, l31, l40, l48, l57, l64, l68, l78, l79, l99, l255, l2000, l2187, l1000000000, hs, s2, hP]
    · obtain ⟨h1, a1, a2, a3, a4⟩ := m_match_L22 W (σ 1 ^ σ 2) 0 FU h (by omega) (by have := FU_eq; omega) M (fun r hr => by omega)
      obtain ⟨h2, v, b1, b2, b3, b4, b5⟩ := m_match_L57 W (by omega) (σ 1 ^ σ 2) FU h1 (v0 (Gm σ)) (cnt_le _ _) (by have := FU_eq; omega) a3 a4 mj_0
      obtain ⟨hc1, hc2⟩ := hc (by omega)
      rw [match_eq W hc1 hc2 b4 b5] at b1
      refine ⟨h2, ?_, a2.tr (b2.up (by simp)), b3⟩
      unfold P_X6_match
      simp (disch := first | assumption | exact FX_setI ‹_› | exact FX_setI (FX_setI ‹_›) | exact FX_setI (FX_setI (FX_setI ‹_›)) | exact FX_setI (FX_setI (FX_setI (FX_setI ‹_›))) | omega) only [gr_0_0, gr_0_1, gr_0_2, gr_0_3, gr_0_4, gr_0_5, gr_0_6, gr_0_7, gr_1_0, gr_1_5, gr_1_7, gr_5_3, gr_5_9, gr_8_3, gr_8_9, gr_11_3, gr_11_9, gr_14_0, gr_14_1, gr_14_2, gr_18_0, gr_18_1, gr_18_2, gr_24_0, gr_24_1, gr_24_2, gr_24_3, gr_24_5, gr_24_6, gr_24_10, gr_24_11, gr_24_12, gr_24_15, al_2, al_3, al_4, al_7, al_10, al_13, al_15, al_16, al_17, al_19, al_20, al_21, al_22, al_23, al_25, al_26, al_27, al_28, al_29, al_30, al_31, al_32, al_33, al_34, as_2, as_3, as_4, as_7, as_10, as_13, as_15, as_16, as_17, as_19, as_20, as_21, as_22, as_23, as_25, as_26, as_27, as_28, as_29, as_30, as_31, as_32, as_33, as_34, gi_0, gi_1, gi_5, gi_8, gi_11, gi_14, gi_18, gi_24, pi_0, pi_1, pi_5, pi_8, pi_11, pi_14, pi_18, pi_24, rc_0, rc_1, rc_5, rc_8, rc_11, rc_14, rc_18, rc_24, ln_2, ln_3, ln_4, ln_7, ln_10, ln_13, ln_15, ln_16, ln_17, ln_19, ln_20, ln_21, ln_22, ln_23, ln_25, ln_26, ln_27, ln_28, ln_29, ln_30, ln_31, ln_32, ln_33, ln_34, ln_6, ln_9, ln_12, ciN, cvN, lt_eq, nn_none, nn_some, setI_1, setI_at, setI_R, upd2_at, I_add, I_addn, Int32.neg_neg, I_mul, I_ltI, I_leI, I_eqI, I_nat, if_true, if_false, reduceIte, reduceIteN, I_difn, bz_0, bz_1, nz_I, I_rem, I_div, I_sub, l4095, l32, l63, l0, l1, l2, l3, l4, l5, l6, l7, l8, l9, l10, l11, l12, l16, l24, l28, l31, l40, l48, l57, l64, l68, l78, l79, l99, l255, l2000, l2187, l1000000000, hs, s2, hP, a1]
      exact b1
  · rw [hw, if_pos rfl] at hs
    have hv : vc 0 = 0 := by
      by_cases hP : σ 2 = 0
      · rw [h0 hP, v0_t (by rw [g0, hw])]
      · exact ((hc (by omega)).1 0 (by omega)).1 (by rw [g0, hw])
    refine ⟨h, ?_, FxA.rf, M⟩
    rw [hv]
    unfold P_X6_match
    simp (disch := first | assumption | exact FX_setI ‹_› | exact FX_setI (FX_setI ‹_›) | exact FX_setI (FX_setI (FX_setI ‹_›)) | exact FX_setI (FX_setI (FX_setI (FX_setI ‹_›))) | omega) only [gr_0_0, gr_0_1, gr_0_2, gr_0_3, gr_0_4, gr_0_5, gr_0_6, gr_0_7, gr_1_0, gr_1_5, gr_1_7, gr_5_3, gr_5_9, gr_8_3, gr_8_9, gr_11_3, gr_11_9, gr_14_0, gr_14_1, gr_14_2, gr_18_0, gr_18_1, gr_18_2, gr_24_0, gr_24_1, gr_24_2, gr_24_3, gr_24_5, gr_24_6, gr_24_10, gr_24_11, gr_24_12, gr_24_15, al_2, al_3, al_4, al_7, al_10, al_13, al_15, al_16, al_17, al_19, al_20, al_21, al_22, al_23, al_25, al_26, al_27, al_28, al_29, al_30, al_31, al_32, al_33, al_34, as_2, as_3, as_4, as_7, as_10, as_13, as_15, as_16, as_17, as_19, as_20, as_21, as_22, as_23, as_25, as_26, as_27, as_28, as_29, as_30, as_31, as_32, as_33, as_34, gi_0, gi_1, gi_5, gi_8, gi_11, gi_14, gi_18, gi_24, pi_0, pi_1, pi_5, pi_8, pi_11, pi_14, pi_18, pi_24, rc_0, rc_1, rc_5, rc_8, rc_11, rc_14, rc_18, rc_24, ln_2, ln_3, ln_4, ln_7, ln_10, ln_13, ln_15, ln_16, ln_17, ln_19, ln_20, ln_21, ln_22, ln_23, ln_25, ln_26, ln_27, ln_28, ln_29, ln_30, ln_31, ln_32, ln_33, ln_34, ln_6, ln_9, ln_12, ciN, cvN, lt_eq, nn_none, nn_some, setI_1, setI_at, setI_R, upd2_at, I_add, I_addn, Int32.neg_neg, I_mul, I_ltI, I_leI, I_eqI, I_nat, if_true, if_false, reduceIte, reduceIteN, I_difn, bz_0, bz_1, nz_I, I_rem, I_div, I_sub, l4095, l32, l63, l0, l1, l2, l3, l4, l5, l6, l7, l8, l9, l10, l11, l12, l16, l24, l28, l31, l40, l48, l57, l64, l68, l78, l79, l99, l255, l2000, l2187, l1000000000, hs]
theorem s_match : Step (P_X5_match 0) (P_X6_match 24) := step_scratch (Ac := [14, 15, 16, 18, 19, 20, 21]) (Am := [26, 33, 34]) (by simp) (by simp) (fun σ h W F C => by
  obtain ⟨h1, v, e1, e2, e3, e4⟩ := c_match W F C
  refine ⟨_, h1, e1, e2, fun h' M => ?_⟩
  obtain ⟨h2, f1, f2, f3⟩ := m_match W M e3 e4
  exact ⟨h2, f1, f2, f3, e24_of f2 (by decide)⟩)
