theorem qj_no {G : Nat → Bool} {q : Nat → Nat} {n r : Nat} (Q : QJ (v0 G) q n r) (hg : G r = false) : QJ (v0 G) q n (r + 1) := by
  obtain ⟨a, b, c, d⟩ := Q
  have h2 : v0 G r = 2 := v0_f hg
  refine ⟨by rw [cnt_succ, ← a, h2]; rfl, fun j hj => ⟨by have := (b j hj).1; omega, (b j hj).2⟩, c, fun i hi hv => ?_⟩
  by_cases h : i = r
  · rw [h] at hv; exact absurd h2 hv
  · exact d i (by omega) hv
theorem qj_yes {G : Nat → Bool} {q : Nat → Nat} {n r : Nat} (Q : QJ (v0 G) q n r) (hg : G r = true) : QJ (v0 G) (upn q n r) (n + 1) (r + 1) := by
  obtain ⟨a, b, c, d⟩ := Q
  have h0 : v0 G r = 0 := v0_t hg
  refine ⟨by rw [cnt_succ, ← a, h0]; rfl, fun j hj => ?_, fun j k hj hk => ?_, fun i hi hv => ?_⟩
  · by_cases h : j = n
    · rw [h, upn_at]
      exact ⟨by omega, by omega⟩
    · rw [upn_ne h]
      exact ⟨by have := (b j (by omega)).1; omega, (b j (by omega)).2⟩
  · have nq : ∀ j, j < n → q j ≠ r := fun j hj z => by have := (b j hj).1; omega
    by_cases h : j = n
    · by_cases h' : k = n
      · intro _; omega
      · rw [h, upn_at, upn_ne h']
        intro z
        exact absurd z.symm (nq k (by omega))
    · by_cases h' : k = n
      · rw [h', upn_at, upn_ne h]
        intro z
        exact absurd z (nq j (by omega))
      · rw [upn_ne h, upn_ne h']
        exact c j k (by omega) (by omega)
  · by_cases h : i = r
    · exact ⟨n, by omega, by rw [upn_at, h]⟩
    · obtain ⟨j, j1, j2⟩ := d i (by omega) hv
      exact ⟨j, by omega, by rw [upn_ne (by omega)]; exact j2⟩
theorem c_begin_L7 {σ : Nat → Nat} (W : WF σ) : ∀ (k r m : Nat) (h : Hp) (q : Nat → Nat) (n : Nat), r + k = σ 1 ^ σ 2 → k < m → FX h → CO h 5 σ → LDS h σ (cur σ) → QJ (v0 (Gc σ)) q n r → CG h r (v0 (Gc σ)) (fun _ => σ 2) q n →
    ∃ h' q' n', P_X1_begin_L7 m 18 5 14 (I r) h = some h' ∧ FxA A4 h h' ∧ QJ (v0 (Gc σ)) q' n' (σ 1 ^ σ 2) ∧ CG h' (σ 1 ^ σ 2) (v0 (Gc σ)) (fun _ => σ 2) q' n' := by
  have hb := W.rows.1
  have hcol := W.col
  intro k
  induction k with
  | zero =>
    intro r m h q n hr hm F C L Q X
    cases m with
    | zero => omega
    | succ m =>
      have e : r = σ 1 ^ σ 2 := by omega
      have a4 := L.2.2.1
      refine ⟨h, q, n, ?_, FxA.rf, by rw [← e]; exact Q, by rw [← e]; exact X⟩
      rw [e]
      unfold P_X1_begin_L7
      simp (disch := first | assumption | exact FX_setI ‹_› | exact FX_setI (FX_setI ‹_›) | exact FX_setI (FX_setI (FX_setI ‹_›)) | exact FX_setI (FX_setI (FX_setI (FX_setI ‹_›))) | omega) only [gr_0_0, gr_0_1, gr_0_2, gr_0_3, gr_0_4, gr_0_5, gr_0_6, gr_0_7, gr_1_0, gr_1_5, gr_1_7, gr_5_3, gr_5_9, gr_8_3, gr_8_9, gr_11_3, gr_11_9, gr_14_0, gr_14_1, gr_14_2, gr_18_0, gr_18_1, gr_18_2, gr_24_0, gr_24_1, gr_24_2, gr_24_3, gr_24_5, gr_24_6, gr_24_10, gr_24_11, gr_24_12, gr_24_15, al_2, al_3, al_4, al_7, al_10, al_13, al_15, al_16, al_17, al_19, al_20, al_21, al_22, al_23, al_25, al_26, al_27, al_28, al_29, al_30, al_31, al_32, al_33, al_34, as_2, as_3, as_4, as_7, as_10, as_13, as_15, as_16, as_17, as_19, as_20, as_21, as_22, as_23, as_25, as_26, as_27, as_28, as_29, as_30, as_31, as_32, as_33, as_34, gi_0, gi_1, gi_5, gi_8, gi_11, gi_14, gi_18, gi_24, pi_0, pi_1, pi_5, pi_8, pi_11, pi_14, pi_18, pi_24, rc_0, rc_1, rc_5, rc_8, rc_11, rc_14, rc_18, rc_24, ln_2, ln_3, ln_4, ln_7, ln_10, ln_13, ln_15, ln_16, ln_17, ln_19, ln_20, ln_21, ln_22, ln_23, ln_25, ln_26, ln_27, ln_28, ln_29, ln_30, ln_31, ln_32, ln_33, ln_34, ln_6, ln_9, ln_12, ciN, cvN, lt_eq, nn_none, nn_some, setI_1, setI_at, setI_R, upd2_at, I_add, I_addn, Int32.neg_neg, I_mul, I_ltI, I_leI, I_eqI, I_nat, if_true, if_false, reduceIte, reduceIteN, I_difn, bz_0, bz_1, nz_I, I_rem, I_div, I_sub, l4095, l32, l63, l0, l1, l2, l3, l4, l5, l6, l7, l8, l9, l10, l11, l12, l16, l24, l28, l31, l40, l48, l57, l64, l68, l78, l79, l99, l255, l2000, l2187, l1000000000, a4]
  | succ k ih =>
    intro r m h q n hr hm F C L Q X
    cases m with
    | zero => omega
    | succ m =>
      have hrN : r < σ 1 ^ σ 2 := by omega
      have a4 := L.2.2.1
      have k2 := C.1.2.2.1
      let h1 : Hp := setI (setI h 19 r (I 2)) 20 r (I (σ 2))
      have z1 : setI (setI h 19 r (I 2)) 20 r (I (σ 2)) = h1 := rfl
      have A1 : FxA A4 h h1 := (FxA.set (by decide)).tr (FxA.set (by decide))
      have F1 : FX h1 := A1.fx F
      have C1 : CO h1 5 σ := CO_fx A1 (by simp [A4]) C
      have L1 : LDS h1 σ (cur σ) := LDS_fx A1 (by simp [A4]) L
      have k2' : (setI h 19 r (I 2)).2.1 5 2 = I (σ 2) := by rw [setI_ne (by decide)]; exact k2
      have he := c_endOf W F1 L1 hrN
      have hw := c_isWish (f := cw σ (cur σ) r) F1 W C1 (fun i _ => by have := wy_lt W (cur σ) (dgc σ r) (σ 2) i; unfold cw; omega)
      have n3 : h1.2.1 18 3 = I n := by
        rw [← z1, setI_ne (by decide), setI_ne (by decide)]
        exact X.2.2.2
      have hnr : n ≤ r := by
        have := cnt_le (fun i => !decide (v0 (Gc σ) i = 2)) r
        have := Q.1
        omega
      have X1 : CG h1 (r + 1) (upn (v0 (Gc σ)) r 2) (fun _ => σ 2) q n := by
        refine ⟨fun i hi => ?_, fun i hi => ?_, fun j hj => ?_, n3⟩
        · rw [← z1, setI_ne (by decide), setI_at]
          by_cases h : i = r
          · rw [if_pos ⟨rfl, h⟩, h, upn_at]
          · rw [if_neg (fun z => h z.2), upn_ne h]
            exact X.1 i (by omega)
        · rw [← z1, setI_at]
          by_cases h : i = r
          · rw [if_pos ⟨rfl, h⟩]
          · rw [if_neg (fun z => h z.2), setI_ne (by decide)]
            exact X.2.1 i (by omega)
        · rw [← z1, setI_ne (by decide), setI_ne (by decide)]
          exact X.2.2.1 j hj
      cases hg : Gc σ r
      · have hg' : wsd σ (cw σ (cur σ) r) = false := hg
        rw [upn_same (v0_f hg)] at X1
        obtain ⟨h2, q2, n2, r1, r2, r3, r4⟩ := ih (r + 1) m h1 q n (by omega) (by omega) F1 C1 L1 (qj_no Q hg) X1
        refine ⟨h2, q2, n2, ?_, A1.tr r2, r3, r4⟩
        rw [hg', if_neg Bool.false_ne_true] at hw
        unfold P_X1_begin_L7
        simp (disch := first | assumption | exact FX_setI ‹_› | exact FX_setI (FX_setI ‹_›) | exact FX_setI (FX_setI (FX_setI ‹_›)) | exact FX_setI (FX_setI (FX_setI (FX_setI ‹_›))) | omega) only [gr_0_0, gr_0_1, gr_0_2, gr_0_3, gr_0_4, gr_0_5, gr_0_6, gr_0_7, gr_1_0, gr_1_5, gr_1_7, gr_5_3, gr_5_9, gr_8_3, gr_8_9, gr_11_3, gr_11_9, gr_14_0, gr_14_1, gr_14_2, gr_18_0, gr_18_1, gr_18_2, gr_24_0, gr_24_1, gr_24_2, gr_24_3, gr_24_5, gr_24_6, gr_24_10, gr_24_11, gr_24_12, gr_24_15, al_2, al_3, al_4, al_7, al_10, al_13, al_15, al_16, al_17, al_19, al_20, al_21, al_22, al_23, al_25, al_26, al_27, al_28, al_29, al_30, al_31, al_32, al_33, al_34, as_2, as_3, as_4, as_7, as_10, as_13, as_15, as_16, as_17, as_19, as_20, as_21, as_22, as_23, as_25, as_26, as_27, as_28, as_29, as_30, as_31, as_32, as_33, as_34, gi_0, gi_1, gi_5, gi_8, gi_11, gi_14, gi_18, gi_24, pi_0, pi_1, pi_5, pi_8, pi_11, pi_14, pi_18, pi_24, rc_0, rc_1, rc_5, rc_8, rc_11, rc_14, rc_18, rc_24, ln_2, ln_3, ln_4, ln_7, ln_10, ln_13, ln_15, ln_16, ln_17, ln_19, ln_20, ln_21, ln_22, ln_23, ln_25, ln_26, ln_27, ln_28, ln_29, ln_30, ln_31, ln_32, ln_33, ln_34, ln_6, ln_9, ln_12, ciN, cvN, lt_eq, nn_none, nn_some, setI_1, setI_at, setI_R, upd2_at, I_add, I_addn, Int32.neg_neg, I_mul, I_ltI, I_leI, I_eqI, I_nat, if_true, if_false, reduceIte, reduceIteN, I_difn, bz_0, bz_1, nz_I, I_rem, I_div, I_sub, l4095, l32, l63, l0, l1, l2, l3, l4, l5, l6, l7, l8, l9, l10, l11, l12, l16, l24, l28, l31, l40, l48, l57, l64, l68, l78, l79, l99, l255, l2000, l2187, l1000000000, a4, k2, z1, he, hw]
        exact r1
      · have hg' : wsd σ (cw σ (cur σ) r) = true := hg
        obtain ⟨X2, A2⟩ := CG_settle (r := r) (x := 0) X1
        have e0 : upn (upn (v0 (Gc σ)) r 2) r 0 = v0 (Gc σ) := by
          funext i
          by_cases h : i = r
          · rw [h, upn_at, v0_t hg]
          · rw [upn_ne h, upn_ne h]
        rw [e0] at X2
        have hse := c_settle (x := I 0) F1 n3 (show r < 2187 by omega) (show n < 2187 by omega)
        obtain ⟨h2, q2, n2, r1, r2, r3, r4⟩ := ih (r + 1) m _ (upn q n r) (n + 1) (by omega) (by omega) (A2.fx F1) (CO_fx A2 (by simp [A4]) C1) (LDS_fx A2 (by simp [A4]) L1) (qj_yes Q hg) X2
        refine ⟨h2, q2, n2, ?_, (A1.tr A2).tr r2, r3, r4⟩
        rw [hg', if_pos rfl] at hw
        unfold P_X1_begin_L7
        simp (disch := first | assumption | exact FX_setI ‹_› | exact FX_setI (FX_setI ‹_›) | exact FX_setI (FX_setI (FX_setI ‹_›)) | exact FX_setI (FX_setI (FX_setI (FX_setI ‹_›))) | omega) only [gr_0_0, gr_0_1, gr_0_2, gr_0_3, gr_0_4, gr_0_5, gr_0_6, gr_0_7, gr_1_0, gr_1_5, gr_1_7, gr_5_3, gr_5_9, gr_8_3, gr_8_9, gr_11_3, gr_11_9, gr_14_0, gr_14_1, gr_14_2, gr_18_0, gr_18_1, gr_18_2, gr_24_0, gr_24_1, gr_24_2, gr_24_3, gr_24_5, gr_24_6, gr_24_10, gr_24_11, gr_24_12, gr_24_15, al_2, al_3, al_4, al_7, al_10, al_13, al_15, al_16, al_17, al_19, al_20, al_21, al_22, al_23, al_25, al_26, al_27, al_28, al_29, al_30, al_31, al_32, al_33, al_34, as_2, as_3, as_4, as_7, as_10, as_13, as_15, as_16, as_17, as_19, as_20, as_21, as_22, as_23, as_25, as_26, as_27, as_28, as_29, as_30, as_31, as_32, as_33, as_34, gi_0, gi_1, gi_5, gi_8, gi_11, gi_14, gi_18, gi_24, pi_0, pi_1, pi_5, pi_8, pi_11, pi_14, pi_18, pi_24, rc_0, rc_1, rc_5, rc_8, rc_11, rc_14, rc_18, rc_24, ln_2, ln_3, ln_4, ln_7, ln_10, ln_13, ln_15, ln_16, ln_17, ln_19, ln_20, ln_21, ln_22, ln_23, ln_25, ln_26, ln_27, ln_28, ln_29, ln_30, ln_31, ln_32, ln_33, ln_34, ln_6, ln_9, ln_12, ciN, cvN, lt_eq, nn_none, nn_some, setI_1, setI_at, setI_R, upd2_at, I_add, I_addn, Int32.neg_neg, I_mul, I_ltI, I_leI, I_eqI, I_nat, if_true, if_false, reduceIte, reduceIteN, I_difn, bz_0, bz_1, nz_I, I_rem, I_div, I_sub, l4095, l32, l63, l0, l1, l2, l3, l4, l5, l6, l7, l8, l9, l10, l11, l12, l16, l24, l28, l31, l40, l48, l57, l64, l68, l78, l79, l99, l255, l2000, l2187, l1000000000, a4, k2, z1, he, hw, hse]
        exact r1
theorem c_match {σ : Nat → Nat} {h : Hp} (W : WF σ) (F : FX h) (C : CO h 5 σ) : ∃ h' v, P_X5_match 0 h = some (I (v 0), h') ∧ FxA [14, 15, 16, 18, 19, 20, 21] h h' ∧ (0 < σ 2 → Fw (Gc σ) (nxc σ) (σ 2) (σ 1 ^ σ 2) v ∧ Bel (Gc σ) (nxc σ) (σ 2) (σ 1 ^ σ 2) v) ∧ (σ 2 = 0 → v 0 = v0 (Gc σ) 0) := by
  have hb := W.rows
  obtain ⟨h1, e1, e2, e3⟩ := c_lead W F C W.cur
  obtain ⟨F1, C1⟩ := FxA3 e2 (by simp) F C
  have k7' : h.2.1 5 7 = I (enc (cur σ)) := COc C
  let h2 : Hp := setI h1 18 3 (I 0)
  have z2 : setI h1 18 3 (I 0) = h2 := rfl
  have A2 : FxA A4 h1 h2 := FxA.set (by decide)
  have L2 := LDS_fx A2 (by simp [A4]) e3
  have C2 := CO_fx A2 (by simp [A4]) C1
  obtain ⟨h3, q, n, b1, b2, b3, b4⟩ := c_begin_L7 W (σ 1 ^ σ 2) 0 FU h2 (fun _ => 0) 0 (by omega) (by have := FU_eq; omega) (A2.fx F1) C2 L2 ⟨rfl, fun j hj => by omega, fun j k hj => by omega, fun r hr => by omega⟩ ⟨fun r hr => by omega, fun r hr => by omega, fun r hr => by omega, by rw [← z2, setI_at, if_pos ⟨rfl, rfl⟩]⟩
  have J : GJ σ h3 (v0 (Gc σ)) (fun _ => σ 2) q n 0 0 := ⟨b2.fx (A2.fx F1), CO_fx b2 (by simp [A4]) C2, LDS_fx b2 (by simp [A4]) L2, mj_0, b3, hj_0, b4, fun _ => rfl⟩
  obtain ⟨h4, v, d1, d2, d3, d4⟩ := c_judged_L8 W (σ 1 ^ σ 2) 0 FU h3 _ _ q n (by omega) (by have := FU_eq; omega) (Nat.zero_le _) J
  have hA : FxA [14, 15, 16, 18, 19, 20, 21] h h4 := ((e2.up (by simp)).tr ((A2.tr b2).up (by simp [A4]))).tr (d2.up (by simp [A4]))
  refine ⟨h4, v, ?_, hA, d3, d4⟩
  have hj : P_X1_judged 18 5 14 h1 = some (I (v 0), h4) := by
    unfold P_X1_judged P_X1_begin
    simp (disch := first | assumption | exact FX_setI ‹_› | exact FX_setI (FX_setI ‹_›) | exact FX_setI (FX_setI (FX_setI ‹_›)) | exact FX_setI (FX_setI (FX_setI (FX_setI ‹_›))) | omega) only [gr_0_0, gr_0_1, gr_0_2, gr_0_3, gr_0_4, gr_0_5, gr_0_6, gr_0_7, gr_1_0, gr_1_5, gr_1_7, gr_5_3, gr_5_9, gr_8_3, gr_8_9, gr_11_3, gr_11_9, gr_14_0, gr_14_1, gr_14_2, gr_18_0, gr_18_1, gr_18_2, gr_24_0, gr_24_1, gr_24_2, gr_24_3, gr_24_5, gr_24_6, gr_24_10, gr_24_11, gr_24_12, gr_24_15, al_2, al_3, al_4, al_7, al_10, al_13, al_15, al_16, al_17, al_19, al_20, al_21, al_22, al_23, al_25, al_26, al_27, al_28, al_29, al_30, al_31, al_32, al_33, al_34, as_2, as_3, as_4, as_7, as_10, as_13, as_15, as_16, as_17, as_19, as_20, as_21, as_22, as_23, as_25, as_26, as_27, as_28, as_29, as_30, as_31, as_32, as_33, as_34, gi_0, gi_1, gi_5, gi_8, gi_11, gi_14, gi_18, gi_24, pi_0, pi_1, pi_5, pi_8, pi_11, pi_14, pi_18, pi_24, rc_0, rc_1, rc_5, rc_8, rc_11, rc_14, rc_18, rc_24, ln_2, ln_3, ln_4, ln_7, ln_10, ln_13, ln_15, ln_16, ln_17, ln_19, ln_20, ln_21, ln_22, ln_23, ln_25, ln_26, ln_27, ln_28, ln_29, ln_30, ln_31, ln_32, ln_33, ln_34, ln_6, ln_9, ln_12, ciN, cvN, lt_eq, nn_none, nn_some, setI_1, setI_at, setI_R, upd2_at, I_add, I_addn, Int32.neg_neg, I_mul, I_ltI, I_leI, I_eqI, I_nat, if_true, if_false, reduceIte, reduceIteN, I_difn, bz_0, bz_1, nz_I, I_rem, I_div, I_sub, l4095, l32, l63, l0, l1, l2, l3, l4, l5, l6, l7, l8, l9, l10, l11, l12, l16, l24, l28, l31, l40, l48, l57, l64, l68, l78, l79, l99, l255, l2000, l2187, l1000000000, z2, b1]
    exact d1
  unfold P_X5_match
  simp (disch := first | assumption | exact FX_setI ‹_› | exact FX_setI (FX_setI ‹_›) | exact FX_setI (FX_setI (FX_setI ‹_›)) | exact FX_setI (FX_setI (FX_setI (FX_setI ‹_›))) | omega) only [gr_0_0, gr_0_1, gr_0_2, gr_0_3, gr_0_4, gr_0_5, gr_0_6, gr_0_7, gr_1_0, gr_1_5, gr_1_7, gr_5_3, gr_5_9, gr_8_3, gr_8_9, gr_11_3, gr_11_9, gr_14_0, gr_14_1, gr_14_2, gr_18_0, gr_18_1, gr_18_2, gr_24_0, gr_24_1, gr_24_2, gr_24_3, gr_24_5, gr_24_6, gr_24_10, gr_24_11, gr_24_12, gr_24_15, al_2, al_3, al_4, al_7, al_10, al_13, al_15, al_16, al_17, al_19, al_20, al_21, al_22, al_23, al_25, al_26, al_27, al_28, al_29, al_30, al_31, al_32, al_33, al_34, as_2, as_3, as_4, as_7, as_10, as_13, as_15, as_16, as_17, as_19, as_20, as_21, as_22, as_23, as_25, as_26, as_27, as_28, as_29, as_30, as_31, as_32, as_33, as_34, gi_0, gi_1, gi_5, gi_8, gi_11, gi_14, gi_18, gi_24, pi_0, pi_1, pi_5, pi_8, pi_11, pi_14, pi_18, pi_24, rc_0, rc_1, rc_5, rc_8, rc_11, rc_14, rc_18, rc_24, ln_2, ln_3, ln_4, ln_7, ln_10, ln_13, ln_15, ln_16, ln_17, ln_19, ln_20, ln_21, ln_22, ln_23, ln_25, ln_26, ln_27, ln_28, ln_29, ln_30, ln_31, ln_32, ln_33, ln_34, ln_6, ln_9, ln_12, ciN, cvN, lt_eq, nn_none, nn_some, setI_1, setI_at, setI_R, upd2_at, I_add, I_addn, Int32.neg_neg, I_mul, I_ltI, I_leI, I_eqI, I_nat, if_true, if_false, reduceIte, reduceIteN, I_difn, bz_0, bz_1, nz_I, I_rem, I_div, I_sub, l4095, l32, l63, l0, l1, l2, l3, l4, l5, l6, l7, l8, l9, l10, l11, l12, l16, l24, l28, l31, l40, l48, l57, l64, l68, l78, l79, l99, l255, l2000, l2187, l1000000000, k7', e1, hj]
/-! The model's match -/
def Gm (σ : Nat → Nat) (row : Nat) : Bool := wsd σ (mw σ (cur σ) row)
def nxd (σ : Nat → Nat) (r p : Nat) : Nat := nxm (σ 1) r p
theorem nxd_lt {σ : Nat → Nat} (W : WF σ) : ∀ r p, r < σ 1 ^ σ 2 → p < σ 2 → nxd σ r p < σ 1 ^ σ 2 := fun r p h1 h2 => (nxm_ok W.2.1 h1 h2).1
def WT (h : Hp) (N : Nat) (v : Nat → Nat) : Prop := ∀ r, r < N → h.2.1 34 r = I (v r)
theorem m_then {σ : Nat → Nat} {h : Hp} (W : WF σ) (M : MS h σ) {row p : Nat} (hr : row < σ 1 ^ σ 2) (hp : p < σ 2) : P_X6_then 24 (I row) (I p) h = some (I (nxd σ row p), h) := by
  have hb := W.rows.1
  have hcol := W.col
  have h7 := W.2.2.1
  have hpw := m_power (e := p) W (MSc M) (by omega)
  have hto := m_timesOf (row := row) (p := p) W (MSc M) (by omega) (by omega)
  have hd := dgt_lt (c := σ 1) (by omega) row p
  have hb2 : σ 1 ^ p ≤ 2187 := Nat.le_trans (Nat.pow_le_pow_right (by omega) (by omega)) hb
  obtain ⟨F, hs⟩ := id M
  have s1 := hs 1 (by decide)
  unfold P_X6_then nxd nxm
  by_cases h0 : dgt (σ 1) row p < σ 1 - 1
  · simp (disch := first | assumption | exact FX_setI ‹_› | exact FX_setI (FX_setI ‹_›) | exact FX_setI (FX_setI (FX_setI ‹_›)) | exact FX_setI (FX_setI (FX_setI (FX_setI ‹_›))) | omega) only [gr_0_0, gr_0_1, gr_0_2, gr_0_3, gr_0_4, gr_0_5, gr_0_6, gr_0_7, gr_1_0, gr_1_5, gr_1_7, gr_5_3, gr_5_9, gr_8_3, gr_8_9, gr_11_3, gr_11_9, gr_14_0, gr_14_1, gr_14_2, gr_18_0, gr_18_1, gr_18_2, gr_24_0, gr_24_1, gr_24_2, gr_24_3, gr_24_5, gr_24_6, gr_24_10, gr_24_11, gr_24_12, gr_24_15, al_2, al_3, al_4, al_7, al_10, al_13, al_15, al_16, al_17, al_19, al_20, al_21, al_22, al_23, al_25, al_26, al_27, al_28, al_29, al_30, al_31, al_32, al_33, al_34, as_2, as_3, as_4, as_7, as_10, as_13, as_15, as_16, as_17, as_19, as_20, as_21, as_22, as_23, as_25, as_26, as_27, as_28, as_29, as_30, as_31, as_32, as_33, as_34, gi_0, gi_1, gi_5, gi_8, gi_11, gi_14, gi_18, gi_24, pi_0, pi_1, pi_5, pi_8, pi_11, pi_14, pi_18, pi_24, rc_0, rc_1, rc_5, rc_8, rc_11, rc_14, rc_18, rc_24, ln_2, ln_3, ln_4, ln_7, ln_10, ln_13, ln_15, ln_16, ln_17, ln_19, ln_20, ln_21, ln_22, ln_23, ln_25, ln_26, ln_27, ln_28, ln_29, ln_30, ln_31, ln_32, ln_33, ln_34, ln_6, ln_9, ln_12, ciN, cvN, lt_eq, nn_none, nn_some, setI_1, setI_at, setI_R, upd2_at, I_add, I_addn, Int32.neg_neg, I_mul, I_ltI, I_leI, I_eqI, I_nat, if_true, if_false, reduceIte, reduceIteN, I_difn, bz_0, bz_1, nz_I, I_rem, I_div, I_sub, l4095, l32, l63, l0, l1, l2, l3, l4, l5, l6, l7, l8, l9, l10, l11, l12, l16, l24, l28, l31, l40, l48, l57, l64, l68, l78, l79, l99, l255, l2000, l2187, l1000000000, hpw, hto, s1]
  · have h1 := (dg_sub (c := σ 1) (r := row) (k := p) (m := σ 1 - 1) (by omega) (by omega)).1
    rw [Nat.mul_comm] at h1
    rw [if_neg h0]
    simp (disch := first | assumption | exact FX_setI ‹_› | exact FX_setI (FX_setI ‹_›) | exact FX_setI (FX_setI (FX_setI ‹_›)) | exact FX_setI (FX_setI (FX_setI (FX_setI ‹_›))) | omega) only [gr_0_0, gr_0_1, gr_0_2, gr_0_3, gr_0_4, gr_0_5, gr_0_6, gr_0_7, gr_1_0, gr_1_5, gr_1_7, gr_5_3, gr_5_9, gr_8_3, gr_8_9, gr_11_3, gr_11_9, gr_14_0, gr_14_1, gr_14_2, gr_18_0, gr_18_1, gr_18_2, gr_24_0, gr_24_1, gr_24_2, gr_24_3, gr_24_5, gr_24_6, gr_24_10, gr_24_11, gr_24_12, gr_24_15, al_2, al_3, al_4, al_7, al_10, al_13, al_15, al_16, al_17, al_19, al_20, al_21, al_22, al_23, al_25, al_26, al_27, al_28, al_29, al_30, al_31, al_32, al_33, al_34, as_2, as_3, as_4, as_7, as_10, as_13, as_15, as_16, as_17, as_19, as_20, as_21, as_22, as_23, as_25, as_26, as_27, as_28, as_29, as_30, as_31, as_32, as_33, as_34, gi_0, gi_1, gi_5, gi_8, gi_11, gi_14, gi_18, gi_24, pi_0, pi_1, pi_5, pi_8, pi_11, pi_14, pi_18, pi_24, rc_0, rc_1, rc_5, rc_8, rc_11, rc_14, rc_18, rc_24, ln_2, ln_3, ln_4, ln_7, ln_10, ln_13, ln_15, ln_16, ln_17, ln_19, ln_20, ln_21, ln_22, ln_23, ln_25, ln_26, ln_27, ln_28, ln_29, ln_30, ln_31, ln_32, ln_33, ln_34, ln_6, ln_9, ln_12, ciN, cvN, lt_eq, nn_none, nn_some, setI_1, setI_at, setI_R, upd2_at, I_add, I_addn, Int32.neg_neg, I_mul, I_ltI, I_leI, I_eqI, I_nat, if_true, if_false, reduceIte, reduceIteN, I_difn, bz_0, bz_1, nz_I, I_rem, I_div, I_sub, l4095, l32, l63, l0, l1, l2, l3, l4, l5, l6, l7, l8, l9, l10, l11, l12, l16, l24, l28, l31, l40, l48, l57, l64, l68, l78, l79, l99, l255, l2000, l2187, l1000000000, hpw, hto, s1]
theorem m_worthOf_L {σ v : Nat → Nat} {h : Hp} (W : WF σ) (M : MS h σ) (X : WT h (σ 1 ^ σ 2) v) (hv : ∀ r, r < σ 1 ^ σ 2 → v r ≤ 2) {row : Nat} (hr : row < σ 1 ^ σ 2) : ∀ (k p m a : Nat), p + k = σ 2 → k < m → (∀ p', p' < p → v (nxd σ row p') ≠ 0) → ((a = 1 ∧ ∀ p', p' < p → v (nxd σ row p') = 1) ∨ (a = 0 ∧ ∃ p', p' < p ∧ v (nxd σ row p') ≠ 1)) →
    ∃ x, x ≤ 2 ∧ Wo (nxd σ) (σ 2) v row x ∧ P_X6_worthOf_L4 m 24 (I row) (I a) (I p) h = some (I x, h) := by
  have hb := W.rows.1
  have h7 := W.2.2.1
  obtain ⟨F, hs⟩ := id M
  have s2 := hs 2 (by decide)
  intro k
  induction k with
  | zero =>
    intro p m a hp hm h0 ha
    cases m with
    | zero => omega
    | succ m =>
      have e : p = σ 2 := by omega
      subst e
      rcases ha with ⟨rfl, ha⟩ | ⟨rfl, q, hq, ha⟩
      · refine ⟨0, by omega, Or.inr (Or.inl ⟨rfl, ha⟩), ?_⟩
        unfold P_X6_worthOf_L4
        simp (disch := first | assumption | exact FX_setI ‹_› | exact FX_setI (FX_setI ‹_›) | exact FX_setI (FX_setI (FX_setI ‹_›)) | exact FX_setI (FX_setI (FX_setI (FX_setI ‹_›))) | omega) only [gr_0_0, gr_0_1, gr_0_2, gr_0_3, gr_0_4, gr_0_5, gr_0_6, gr_0_7, gr_1_0, gr_1_5, gr_1_7, gr_5_3, gr_5_9, gr_8_3, gr_8_9, gr_11_3, gr_11_9, gr_14_0, gr_14_1, gr_14_2, gr_18_0, gr_18_1, gr_18_2, gr_24_0, gr_24_1, gr_24_2, gr_24_3, gr_24_5, gr_24_6, gr_24_10, gr_24_11, gr_24_12, gr_24_15, al_2, al_3, al_4, al_7, al_10, al_13, al_15, al_16, al_17, al_19, al_20, al_21, al_22, al_23, al_25, al_26, al_27, al_28, al_29, al_30, al_31, al_32, al_33, al_34, as_2, as_3, as_4, as_7, as_10, as_13, as_15, as_16, as_17, as_19, as_20, as_21, as_22, as_23, as_25, as_26, as_27, as_28, as_29, as_30, as_31, as_32, as_33, as_34, gi_0, gi_1, gi_5, gi_8, gi_11, gi_14, gi_18, gi_24, pi_0, pi_1, pi_5, pi_8, pi_11, pi_14, pi_18, pi_24, rc_0, rc_1, rc_5, rc_8, rc_11, rc_14, rc_18, rc_24, ln_2, ln_3, ln_4, ln_7, ln_10, ln_13, ln_15, ln_16, ln_17, ln_19, ln_20, ln_21, ln_22, ln_23, ln_25, ln_26, ln_27, ln_28, ln_29, ln_30, ln_31, ln_32, ln_33, ln_34, ln_6, ln_9, ln_12, ciN, cvN, lt_eq, nn_none, nn_some, setI_1, setI_at, setI_R, upd2_at, I_add, I_addn, Int32.neg_neg, I_mul, I_ltI, I_leI, I_eqI, I_nat, if_true, if_false, reduceIte, reduceIteN, I_difn, bz_0, bz_1, nz_I, I_rem, I_div, I_sub, l4095, l32, l63, l0, l1, l2, l3, l4, l5, l6, l7, l8, l9, l10, l11, l12, l16, l24, l28, l31, l40, l48, l57, l64, l68, l78, l79, l99, l255, l2000, l2187, l1000000000, s2]
      · refine ⟨2, by omega, Or.inr (Or.inr ⟨rfl, h0, q, hq, ha⟩), ?_⟩
        unfold P_X6_worthOf_L4
        simp (disch := first | assumption | exact FX_setI ‹_› | exact FX_setI (FX_setI ‹_›) | exact FX_setI (FX_setI (FX_setI ‹_›)) | exact FX_setI (FX_setI (FX_setI (FX_setI ‹_›))) | omega) only [gr_0_0, gr_0_1, gr_0_2, gr_0_3, gr_0_4, gr_0_5, gr_0_6, gr_0_7, gr_1_0, gr_1_5, gr_1_7, gr_5_3, gr_5_9, gr_8_3, gr_8_9, gr_11_3, gr_11_9, gr_14_0, gr_14_1, gr_14_2, gr_18_0, gr_18_1, gr_18_2, gr_24_0, gr_24_1, gr_24_2, gr_24_3, gr_24_5, gr_24_6, gr_24_10, gr_24_11, gr_24_12, gr_24_15, al_2, al_3, al_4, al_7, al_10, al_13, al_15, al_16, al_17, al_19, al_20, al_21, al_22, al_23, al_25, al_26, al_27, al_28, al_29, al_30, al_31, al_32, al_33, al_34, as_2, as_3, as_4, as_7, as_10, as_13, as_15, as_16, as_17, as_19, as_20, as_21, as_22, as_23, as_25, as_26, as_27, as_28, as_29, as_30, as_31, as_32, as_33, as_34, gi_0, gi_1, gi_5, gi_8, gi_11, gi_14, gi_18, gi_24, pi_0, pi_1, pi_5, pi_8, pi_11, pi_14, pi_18, pi_24, rc_0, rc_1, rc_5, rc_8, rc_11, rc_14, rc_18, rc_24, ln_2, ln_3, ln_4, ln_7, ln_10, ln_13, ln_15, ln_16, ln_17, ln_19, ln_20, ln_21, ln_22, ln_23, ln_25, ln_26, ln_27, ln_28, ln_29, ln_30, ln_31, ln_32, ln_33, ln_34, ln_6, ln_9, ln_12, ciN, cvN, lt_eq, nn_none, nn_some, setI_1, setI_at, setI_R, upd2_at, I_add, I_addn, Int32.neg_neg, I_mul, I_ltI, I_leI, I_eqI, I_nat, if_true, if_false, reduceIte, reduceIteN, I_difn, bz_0, bz_1, nz_I, I_rem, I_div, I_sub, l4095, l32, l63, l0, l1, l2, l3, l4, l5, l6, l7, l8, l9, l10, l11, l12, l16, l24, l28, l31, l40, l48, l57, l64, l68, l78, l79, l99, l255, l2000, l2187, l1000000000, s2]
  | succ k ih =>
    intro p m a hp hm h0 ha
    cases m with
    | zero => omega
    | succ m =>
      have hpP : p < σ 2 := by omega
      have ht := m_then W M hr hpP
      have hl := nxd_lt W row p hr hpP
      have hx := X _ hl
      have hv2 := hv _ hl
      by_cases z : v (nxd σ row p) = 0
      · refine ⟨1, by omega, Or.inl ⟨rfl, p, hpP, z⟩, ?_⟩
        rw [z] at hx
        unfold P_X6_worthOf_L4
        simp (disch := first | assumption | exact FX_setI ‹_› | exact FX_setI (FX_setI ‹_›) | exact FX_setI (FX_setI (FX_setI ‹_›)) | exact FX_setI (FX_setI (FX_setI (FX_setI ‹_›))) | omega) only [gr_0_0, gr_0_1, gr_0_2, gr_0_3, gr_0_4, gr_0_5, gr_0_6, gr_0_7, gr_1_0, gr_1_5, gr_1_7, gr_5_3, gr_5_9, gr_8_3, gr_8_9, gr_11_3, gr_11_9, gr_14_0, gr_14_1, gr_14_2, gr_18_0, gr_18_1, gr_18_2, gr_24_0, gr_24_1, gr_24_2, gr_24_3, gr_24_5, gr_24_6, gr_24_10, gr_24_11, gr_24_12, gr_24_15, al_2, al_3, al_4, al_7, al_10, al_13, al_15, al_16, al_17, al_19, al_20, al_21, al_22, al_23, al_25, al_26, al_27, al_28, al_29, al_30, al_31, al_32, al_33, al_34, as_2, as_3, as_4, as_7, as_10, as_13, as_15, as_16, as_17, as_19, as_20, as_21, as_22, as_23, as_25, as_26, as_27, as_28, as_29, as_30, as_31, as_32, as_33, as_34, gi_0, gi_1, gi_5, gi_8, gi_11, gi_14, gi_18, gi_24, pi_0, pi_1, pi_5, pi_8, pi_11, pi_14, pi_18, pi_24, rc_0, rc_1, rc_5, rc_8, rc_11, rc_14, rc_18, rc_24, ln_2, ln_3, ln_4, ln_7, ln_10, ln_13, ln_15, ln_16, ln_17, ln_19, ln_20, ln_21, ln_22, ln_23, ln_25, ln_26, ln_27, ln_28, ln_29, ln_30, ln_31, ln_32, ln_33, ln_34, ln_6, ln_9, ln_12, ciN, cvN, lt_eq, nn_none, nn_some, setI_1, setI_at, setI_R, upd2_at, I_add, I_addn, Int32.neg_neg, I_mul, I_ltI, I_leI, I_eqI, I_nat, if_true, if_false, reduceIte, reduceIteN, I_difn, bz_0, bz_1, nz_I, I_rem, I_div, I_sub, l4095, l32, l63, l0, l1, l2, l3, l4, l5, l6, l7, l8, l9, l10, l11, l12, l16, l24, l28, l31, l40, l48, l57, l64, l68, l78, l79, l99, l255, l2000, l2187, l1000000000, s2, ht, hx]
      · have h0' : ∀ p', p' < p + 1 → v (nxd σ row p') ≠ 0 := fun p' h => by
          by_cases e : p' = p
          · rw [e]; exact z
          · exact h0 p' (by omega)
        rcases ha with ⟨rfl, ha⟩ | ⟨rfl, q, hq, ha⟩
        · by_cases z1 : v (nxd σ row p) = 1
          · obtain ⟨x, x1, x2, x3⟩ := ih (p + 1) m 1 (by omega) (by omega) h0' (Or.inl ⟨rfl, fun p' h => by
              by_cases e : p' = p
              · rw [e]; exact z1
              · exact ha p' (by omega)⟩)
            refine ⟨x, x1, x2, ?_⟩
            rw [z1] at hx
            unfold P_X6_worthOf_L4
            simp (disch := first | assumption | exact FX_setI ‹_› | exact FX_setI (FX_setI ‹_›) | exact FX_setI (FX_setI (FX_setI ‹_›)) | exact FX_setI (FX_setI (FX_setI (FX_setI ‹_›))) | omega) only [gr_0_0, gr_0_1, gr_0_2, gr_0_3, gr_0_4, gr_0_5, gr_0_6, gr_0_7, gr_1_0, gr_1_5, gr_1_7, gr_5_3, gr_5_9, gr_8_3, gr_8_9, gr_11_3, gr_11_9, gr_14_0, gr_14_1, gr_14_2, gr_18_0, gr_18_1, gr_18_2, gr_24_0, gr_24_1, gr_24_2, gr_24_3, gr_24_5, gr_24_6, gr_24_10, gr_24_11, gr_24_12, gr_24_15, al_2, al_3, al_4, al_7, al_10, al_13, al_15, al_16, al_17, al_19, al_20, al_21, al_22, al_23, al_25, al_26, al_27, al_28, al_29, al_30, al_31, al_32, al_33, al_34, as_2, as_3, as_4, as_7, as_10, as_13, as_15, as_16, as_17, as_19, as_20, as_21, as_22, as_23, as_25, as_26, as_27, as_28, as_29, as_30, as_31, as_32, as_33, as_34, gi_0, gi_1, gi_5, gi_8, gi_11, gi_14, gi_18, gi_24, pi_0, pi_1, pi_5, pi_8, pi_11, pi_14, pi_18, pi_24, rc_0, rc_1, rc_5, rc_8, rc_11, rc_14, rc_18, rc_24, ln_2, ln_3, ln_4, ln_7, ln_10, ln_13, ln_15, ln_16, ln_17, ln_19, ln_20, ln_21, ln_22, ln_23, ln_25, ln_26, ln_27, ln_28, ln_29, ln_30, ln_31, ln_32, ln_33, ln_34, ln_6, ln_9, ln_12, ciN, cvN, lt_eq, nn_none, nn_some, setI_1, setI_at, setI_R, upd2_at, I_add, I_addn, Int32.neg_neg, I_mul, I_ltI, I_leI, I_eqI, I_nat, if_true, if_false, reduceIte, reduceIteN, I_difn, bz_0, bz_1, nz_I, I_rem, I_div, I_sub, l4095, l32, l63, l0, l1, l2, l3, l4, l5, l6, l7, l8, l9, l10, l11, l12, l16, l24, l28, l31, l40, l48, l57, l64, l68, l78, l79, l99, l255, l2000, l2187, l1000000000, s2, ht, hx]
            exact x3
          · obtain ⟨x, x1, x2, x3⟩ := ih (p + 1) m 0 (by omega) (by omega) h0' (Or.inr ⟨rfl, p, by omega, z1⟩)
            refine ⟨x, x1, x2, ?_⟩
            rw [show v (nxd σ row p) = 2 by omega] at hx
            unfold P_X6_worthOf_L4
            simp (disch := first | assumption | exact FX_setI ‹_› | exact FX_setI (FX_setI ‹_›) | exact FX_setI (FX_setI (FX_setI ‹_›)) | exact FX_setI (FX_setI (FX_setI (FX_setI ‹_›))) | omega) only [gr_0_0, gr_0_1, gr_0_2, gr_0_3, gr_0_4, gr_0_5, gr_0_6, gr_0_7, gr_1_0, gr_1_5, gr_1_7, gr_5_3, gr_5_9, gr_8_3, gr_8_9, gr_11_3, gr_11_9, gr_14_0, gr_14_1, gr_14_2, gr_18_0, gr_18_1, gr_18_2, gr_24_0, gr_24_1, gr_24_2, gr_24_3, gr_24_5, gr_24_6, gr_24_10, gr_24_11, gr_24_12, gr_24_15, al_2, al_3, al_4, al_7, al_10, al_13, al_15, al_16, al_17, al_19, al_20, al_21, al_22, al_23, al_25, al_26, al_27, al_28, al_29, al_30, al_31, al_32, al_33, al_34, as_2, as_3, as_4, as_7, as_10, as_13, as_15, as_16, as_17, as_19, as_20, as_21, as_22, as_23, as_25, as_26, as_27, as_28, as_29, as_30, as_31, as_32, as_33, as_34, gi_0, gi_1, gi_5, gi_8, gi_11, gi_14, gi_18, gi_24, pi_0, pi_1, pi_5, pi_8, pi_11, pi_14, pi_18, pi_24, rc_0, rc_1, rc_5, rc_8, rc_11, rc_14, rc_18, rc_24, ln_2, ln_3, ln_4, ln_7, ln_10, ln_13, ln_15, ln_16, ln_17, ln_19, ln_20, ln_21, ln_22, ln_23, ln_25, ln_26, ln_27, ln_28, ln_29, ln_30, ln_31, ln_32, ln_33, ln_34, ln_6, ln_9, ln_12, ciN, cvN, lt_eq, nn_none, nn_some, setI_1, setI_at, setI_R, upd2_at, I_add, I_addn, Int32.neg_neg, I_mul, I_ltI, I_leI, I_eqI, I_nat, if_true, if_false, reduceIte, reduceIteN, I_difn, bz_0, bz_1, nz_I, I_rem, I_div, I_sub, l4095, l32, l63, l0, l1, l2, l3, l4, l5, l6, l7, l8, l9, l10, l11, l12, l16, l24, l28, l31, l40, l48, l57, l64, l68, l78, l79, l99, l255, l2000, l2187, l1000000000, s2, ht, hx]
            exact x3
        · obtain ⟨x, x1, x2, x3⟩ := ih (p + 1) m 0 (by omega) (by omega) h0' (Or.inr ⟨rfl, q, by omega, ha⟩)
          refine ⟨x, x1, x2, ?_⟩
          unfold P_X6_worthOf_L4
          simp (disch := first | assumption | exact FX_setI ‹_› | exact FX_setI (FX_setI ‹_›) | exact FX_setI (FX_setI (FX_setI ‹_›)) | exact FX_setI (FX_setI (FX_setI (FX_setI ‹_›))) | omega) only [gr_0_0, gr_0_1, gr_0_2, gr_0_3, gr_0_4, gr_0_5, gr_0_6, gr_0_7, gr_1_0, gr_1_5, gr_1_7, gr_5_3, gr_5_9, gr_8_3, gr_8_9, gr_11_3, gr_11_9, gr_14_0, gr_14_1, gr_14_2, gr_18_0, gr_18_1, gr_18_2, gr_24_0, gr_24_1, gr_24_2, gr_24_3, gr_24_5, gr_24_6, gr_24_10, gr_24_11, gr_24_12, gr_24_15, al_2, al_3, al_4, al_7, al_10, al_13, al_15, al_16, al_17, al_19, al_20, al_21, al_22, al_23, al_25, al_26, al_27, al_28, al_29, al_30, al_31, al_32, al_33, al_34, as_2, as_3, as_4, as_7, as_10, as_13, as_15, as_16, as_17, as_19, as_20, as_21, as_22, as_23, as_25, as_26, as_27, as_28, as_29, as_30, as_31, as_32, as_33, as_34, gi_0, gi_1, gi_5, gi_8, gi_11, gi_14, gi_18, gi_24, pi_0, pi_1, pi_5, pi_8, pi_11, pi_14, pi_18, pi_24, rc_0, rc_1, rc_5, rc_8, rc_11, rc_14, rc_18, rc_24, ln_2, ln_3, ln_4, ln_7, ln_10, ln_13, ln_15, ln_16, ln_17, ln_19, ln_20, ln_21, ln_22, ln_23, ln_25, ln_26, ln_27, ln_28, ln_29, ln_30, ln_31, ln_32, ln_33, ln_34, ln_6, ln_9, ln_12, ciN, cvN, lt_eq, nn_none, nn_some, setI_1, setI_at, setI_R, upd2_at, I_add, I_addn, Int32.neg_neg, I_mul, I_ltI, I_leI, I_eqI, I_nat, if_true, if_false, reduceIte, reduceIteN, I_difn, bz_0, bz_1, nz_I, I_rem, I_div, I_sub, l4095, l32, l63, l0, l1, l2, l3, l4, l5, l6, l7, l8, l9, l10, l11, l12, l16, l24, l28, l31, l40, l48, l57, l64, l68, l78, l79, l99, l255, l2000, l2187, l1000000000, s2, ht, hx]
          exact x3
theorem m_worthOf {σ v : Nat → Nat} {h : Hp} (W : WF σ) (M : MS h σ) (X : WT h (σ 1 ^ σ 2) v) (hv : ∀ r, r < σ 1 ^ σ 2 → v r ≤ 2) {row : Nat} (hr : row < σ 1 ^ σ 2) : ∃ x, x ≤ 2 ∧ Wo (nxd σ) (σ 2) v row x ∧ P_X6_worthOf 24 (I row) h = some (I x, h) := by
  obtain ⟨x, x1, x2, x3⟩ := m_worthOf_L W M X hv hr (σ 2) 0 FU 1 (by omega) (by have := W.2.2.1; have := FU_eq; omega) (fun p' h => by omega) (Or.inl ⟨rfl, fun p' h => by omega⟩)
  refine ⟨x, x1, x2, ?_⟩
  unfold P_X6_worthOf
  exact x3
theorem MS_34 {h : Hp} {σ : Nat → Nat} (M : MS h σ) {r : Nat} {x : Int32} : MS (setI h 34 r x) σ := ⟨FX_setI M.1, fun j hj => by rw [setI_ne (by decide)]; exact M.2 j hj⟩
theorem m_match_L22 {σ : Nat → Nat} (W : WF σ) : ∀ (k r m : Nat) (h : Hp), r + k = σ 1 ^ σ 2 → k < m → MS h σ → WT h r (v0 (Gm σ)) →
    ∃ h', (∀ kont, P_X6_match_L22 m 24 (I r) h kont = kont h') ∧ FxA [26, 33, 34] h h' ∧ MS h' σ ∧ WT h' (σ 1 ^ σ 2) (v0 (Gm σ)) := by
  have hb := W.rows.1
  intro k
  induction k with
  | zero =>
    intro r m h hr hm M X
    cases m with
    | zero => omega
    | succ m =>
      have e : r = σ 1 ^ σ 2 := by omega
      have hro := m_rows W (MSc M)
      have F := M.1
      refine ⟨h, fun kont => ?_, FxA.rf, M, by rw [← e]; exact X⟩
      rw [e]
      unfold P_X6_match_L22
      simp (disch := first | assumption | exact FX_setI ‹_› | exact FX_setI (FX_setI ‹_›) | exact FX_setI (FX_setI (FX_setI ‹_›)) | exact FX_setI (FX_setI (FX_setI (FX_setI ‹_›))) | omega) only [gr_0_0, gr_0_1, gr_0_2, gr_0_3, gr_0_4, gr_0_5, gr_0_6, gr_0_7, gr_1_0, gr_1_5, gr_1_7, gr_5_3, gr_5_9, gr_8_3, gr_8_9, gr_11_3, gr_11_9, gr_14_0, gr_14_1, gr_14_2, gr_18_0, gr_18_1, gr_18_2, gr_24_0, gr_24_1, gr_24_2, gr_24_3, gr_24_5, gr_24_6, gr_24_10, gr_24_11, gr_24_12, gr_24_15, al_2, al_3, al_4, al_7, al_10, al_13, al_15, al_16, al_17, al_19, al_20, al_21, al_22, al_23, al_25, al_26, al_27, al_28, al_29, al_30, al_31, al_32, al_33, al_34, as_2, as_3, as_4, as_7, as_10, as_13, as_15, as_16, as_17, as_19, as_20, as_21, as_22, as_23, as_25, as_26, as_27, as_28, as_29, as_30, as_31, as_32, as_33, as_34, gi_0, gi_1, gi_5, gi_8, gi_11, gi_14, gi_18, gi_24, pi_0, pi_1, pi_5, pi_8, pi_11, pi_14, pi_18, pi_24, rc_0, rc_1, rc_5, rc_8, rc_11, rc_14, rc_18, rc_24, ln_2, ln_3, ln_4, ln_7, ln_10, ln_13, ln_15, ln_16, ln_17, ln_19, ln_20, ln_21, ln_22, ln_23, ln_25, ln_26, ln_27, ln_28, ln_29, ln_30, ln_31, ln_32, ln_33, ln_34, ln_6, ln_9, ln_12, ciN, cvN, lt_eq, nn_none, nn_some, setI_1, setI_at, setI_R, upd2_at, I_add, I_addn, Int32.neg_neg, I_mul, I_ltI, I_leI, I_eqI, I_nat, if_true, if_false, reduceIte, reduceIteN, I_difn, bz_0, bz_1, nz_I, I_rem, I_div, I_sub, l4095, l32, l63, l0, l1, l2, l3, l4, l5, l6, l7, l8, l9, l10, l11, l12, l16, l24, l28, l31, l40, l48, l57, l64, l68, l78, l79, l99, l255, l2000, l2187, l1000000000, hro]
  | succ k ih =>
    intro r m h hr hm M X
    cases m with
    | zero => omega
    | succ m =>
      have hro := m_rows W (MSc M)
      have F := M.1
      obtain ⟨h1, e1, e2, e3⟩ := m_brings (row := r) W (by omega) W.cur (MSc M)
      have F1 := e3.1
      have hX : ∀ x, v0 (Gm σ) r = x → WT (setI h1 34 r (I x)) (r + 1) (v0 (Gm σ)) := fun x hx i hi => by
        rw [setI_at]
        by_cases h : i = r
        · rw [if_pos ⟨rfl, h⟩, h, hx]
        · rw [if_neg (fun z => h z.2), e2.2.2 34 (by decide)]
          exact X i (by omega)
      cases hg : Gm σ r
      · have hg' : wsd σ (wy σ (cur σ) (dgt (σ 1) r) (σ 2)) = false := hg
        obtain ⟨h2, r1, r2, r3, r4⟩ := ih (r + 1) m (setI h1 34 r (I 2)) (by omega) (by omega) (MS_34 (MS_uncur e3)) (hX 2 (v0_f hg))
        refine ⟨h2, fun kont => ?_, ((e2.up (by simp)).tr (FxA.set (by decide))).tr r2, r3, r4⟩
        have r1' := r1 kont
        rw [hg', if_neg Bool.false_ne_true] at e1
        unfold P_X6_match_L22
        simp (disch := first | assumption | exact FX_setI ‹_› | exact FX_setI (FX_setI ‹_›) | exact FX_setI (FX_setI (FX_setI ‹_›)) | exact FX_setI (FX_setI (FX_setI (FX_setI ‹_›))) | omega) only [gr_0_0, gr_0_1, gr_0_2, gr_0_3, gr_0_4, gr_0_5, gr_0_6, gr_0_7, gr_1_0, gr_1_5, gr_1_7, gr_5_3, gr_5_9, gr_8_3, gr_8_9, gr_11_3, gr_11_9, gr_14_0, gr_14_1, gr_14_2, gr_18_0, gr_18_1, gr_18_2, gr_24_0, gr_24_1, gr_24_2, gr_24_3, gr_24_5, gr_24_6, gr_24_10, gr_24_11, gr_24_12, gr_24_15, al_2, al_3, al_4, al_7, al_10, al_13, al_15, al_16, al_17, al_19, al_20, al_21, al_22, al_23, al_25, al_26, al_27, al_28, al_29, al_30, al_31, al_32, al_33, al_34, as_2, as_3, as_4, as_7, as_10, as_13, as_15, as_16, as_17, as_19, as_20, as_21, as_22, as_23, as_25, as_26, as_27, as_28, as_29, as_30, as_31, as_32, as_33, as_34, gi_0, gi_1, gi_5, gi_8, gi_11, gi_14, gi_18, gi_24, pi_0, pi_1, pi_5, pi_8, pi_11, pi_14, pi_18, pi_24, rc_0, rc_1, rc_5, rc_8, rc_11, rc_14, rc_18, rc_24, ln_2, ln_3, ln_4, ln_7, ln_10, ln_13, ln_15, ln_16, ln_17, ln_19, ln_20, ln_21, ln_22, ln_23, ln_25, ln_26, ln_27, ln_28, ln_29, ln_30, ln_31, ln_32, ln_33, ln_34, ln_6, ln_9, ln_12, ciN, cvN, lt_eq, nn_none, nn_some, setI_1, setI_at, setI_R, upd2_at, I_add, I_addn, Int32.neg_neg, I_mul, I_ltI, I_leI, I_eqI, I_nat, if_true, if_false, reduceIte, reduceIteN, I_difn, bz_0, bz_1, nz_I, I_rem, I_div, I_sub, l4095, l32, l63, l0, l1, l2, l3, l4, l5, l6, l7, l8, l9, l10, l11, l12, l16, l24, l28, l31, l40, l48, l57, l64, l68, l78, l79, l99, l255, l2000, l2187, l1000000000, hro, e1]
        exact r1'
      · have hg' : wsd σ (wy σ (cur σ) (dgt (σ 1) r) (σ 2)) = true := hg
        obtain ⟨h2, r1, r2, r3, r4⟩ := ih (r + 1) m (setI h1 34 r (I 0)) (by omega) (by omega) (MS_34 (MS_uncur e3)) (hX 0 (v0_t hg))
        refine ⟨h2, fun kont => ?_, ((e2.up (by simp)).tr (FxA.set (by decide))).tr r2, r3, r4⟩
        have r1' := r1 kont
        rw [hg', if_pos rfl] at e1
        unfold P_X6_match_L22
        simp (disch := first | assumption | exact FX_setI ‹_› | exact FX_setI (FX_setI ‹_›) | exact FX_setI (FX_setI (FX_setI ‹_›)) | exact FX_setI (FX_setI (FX_setI (FX_setI ‹_›))) | omega) only [gr_0_0, gr_0_1, gr_0_2, gr_0_3, gr_0_4, gr_0_5, gr_0_6, gr_0_7, gr_1_0, gr_1_5, gr_1_7, gr_5_3, gr_5_9, gr_8_3, gr_8_9, gr_11_3, gr_11_9, gr_14_0, gr_14_1, gr_14_2, gr_18_0, gr_18_1, gr_18_2, gr_24_0, gr_24_1, gr_24_2, gr_24_3, gr_24_5, gr_24_6, gr_24_10, gr_24_11, gr_24_12, gr_24_15, al_2, al_3, al_4, al_7, al_10, al_13, al_15, al_16, al_17, al_19, al_20, al_21, al_22, al_23, al_25, al_26, al_27, al_28, al_29, al_30, al_31, al_32, al_33, al_34, as_2, as_3, as_4, as_7, as_10, as_13, as_15, as_16, as_17, as_19, as_20, as_21, as_22, as_23, as_25, as_26, as_27, as_28, as_29, as_30, as_31, as_32, as_33, as_34, gi_0, gi_1, gi_5, gi_8, gi_11, gi_14, gi_18, gi_24, pi_0, pi_1, pi_5, pi_8, pi_11, pi_14, pi_18, pi_24, rc_0, rc_1, rc_5, rc_8, rc_11, rc_14, rc_18, rc_24, ln_2, ln_3, ln_4, ln_7, ln_10, ln_13, ln_15, ln_16, ln_17, ln_19, ln_20, ln_21, ln_22, ln_23, ln_25, ln_26, ln_27, ln_28, ln_29, ln_30, ln_31, ln_32, ln_33, ln_34, ln_6, ln_9, ln_12, ciN, cvN, lt_eq, nn_none, nn_some, setI_1, setI_at, setI_R, upd2_at, I_add, I_addn, Int32.neg_neg, I_mul, I_ltI, I_leI, I_eqI, I_nat, if_true, if_false, reduceIte, reduceIteN, I_difn, bz_0, bz_1, nz_I, I_rem, I_div, I_sub, l4095, l32, l63, l0, l1, l2, l3, l4, l5, l6, l7, l8, l9, l10, l11, l12, l16, l24, l28, l31, l40, l48, l57, l64, l68, l78, l79, l99, l255, l2000, l2187, l1000000000, hro, e1]
        exact r1'
