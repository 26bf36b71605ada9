/-- a draw, before it is cut to the people -/
def drw (z : Int32) : Nat := ((z &&& 2147483647) / 256).toNatClampNeg
theorem and_max (z : Int32) : ∃ m, m < 2147483648 ∧ z &&& 2147483647 = I m := by
  refine ⟨z.toBitVec.toNat % 2147483648, Nat.mod_lt _ (by decide), ?_⟩
  apply Int32.toBitVec_inj.mp
  show z.toBitVec &&& (2147483647 : Int32).toBitVec = BitVec.ofNat 32 (z.toBitVec.toNat % 2147483648)
  have e : (2147483647 : Int32).toBitVec = BitVec.ofNat 32 2147483647 := by decide
  rw [e]
  apply BitVec.eq_of_toNat_eq
  rw [BitVec.toNat_and, BitVec.toNat_ofNat, BitVec.toNat_ofNat]
  have e2 : 2147483647 % 2 ^ 32 = 2 ^ 31 - 1 := by decide
  rw [e2, Nat.and_two_pow_sub_one_eq_mod]
  have : z.toBitVec.toNat % 2147483648 < 2147483648 := Nat.mod_lt _ (by decide)
  rw [Nat.mod_eq_of_lt (show z.toBitVec.toNat % 2147483648 < 2 ^ 32 by omega)]
theorem drw_eq (z : Int32) : (z &&& 2147483647) / 256 = I (drw z) ∧ drw z < 2147483648 := by
  obtain ⟨m, hm, e⟩ := and_max z
  have h1 : m / 256 ≤ m := Nat.div_le_self _ _
  have e2 : (z &&& 2147483647) / 256 = I (m / 256) := by
    rw [e]
    exact I_div hm (by decide)
  unfold drw
  rw [e2, I_nat (by omega)]
  exact ⟨rfl, by omega⟩
/-- ways behind so many draws -/
def sdf (σ : Nat → Nat) : Nat → Int32 → (Nat → Nat) → Nat → Nat
  | 0, _, f => f
  | k + 1, z, f => sdf σ k (z * 1664525 + 1013904223) (tw (σ 1) f (tb1 σ (drw (z * 1664525 + 1013904223) % σ 2)))
theorem sdf_lt {σ : Nat → Nat} (W : WF σ) : ∀ k z f, (∀ i, i < 12 → f i < σ 1) → ∀ i, i < 12 → sdf σ k z f i < σ 1
  | 0, _, f, hf, i, hi => hf i hi
  | k + 1, z, f, hf, i, hi => sdf_lt W k _ _ (fun j _ => tw_lt (by have := W.col; omega) _ _ j) i hi
theorem c_seeds_L {σ : Nat → Nat} {h : Hp} (W : WF σ) (F : FX h) (C : CO h 5 σ) (h0 : 0 < σ 2) {N : Nat} (hN : N ≤ 99) : ∀ (k i n : Nat) (z : Int32) (f : Nat → Nat), i + k = N → k < n → (∀ j, j < 12 → f j < σ 1) → P_X5_seeds_L54 n 0 (I N) (I (enc f)) z (I i) h = some (I (hr (σ 1) (sdf σ k z f) 0 (σ 0)), h) := by
  have h7 := W.2.2.1
  have hcol := W.col
  have k1 := C.1.2.1
  have k2 := C.1.2.2.1
  intro k
  induction k with
  | zero =>
    intro i n z f hi hn hf
    cases n with
    | zero => omega
    | succ n =>
      have hs := c_stateOf F W C hf
      unfold P_X5_seeds_L54 sdf
      simp (disch := first | assumption | exact FX_setI ‹_› | exact FX_setI (FX_setI ‹_›) | exact FX_setI (FX_setI (FX_setI ‹_›)) | exact FX_setI (FX_setI (FX_setI (FX_setI ‹_›))) | omega) only [gr_0_0, gr_0_1, gr_0_2, gr_0_3, gr_0_4, gr_0_5, gr_0_6, gr_0_7, gr_1_0, gr_1_5, gr_1_7, gr_5_3, gr_5_9, gr_8_3, gr_8_9, gr_11_3, gr_11_9, gr_14_0, gr_14_1, gr_14_2, gr_18_0, gr_18_1, gr_18_2, gr_24_0, gr_24_1, gr_24_2, gr_24_3, gr_24_5, gr_24_6, gr_24_10, gr_24_11, gr_24_12, gr_24_15, al_2, al_3, al_4, al_7, al_10, al_13, al_15, al_16, al_17, al_19, al_20, al_21, al_22, al_23, al_25, al_26, al_27, al_28, al_29, al_30, al_31, al_32, al_33, al_34, as_2, as_3, as_4, as_7, as_10, as_13, as_15, as_16, as_17, as_19, as_20, as_21, as_22, as_23, as_25, as_26, as_27, as_28, as_29, as_30, as_31, as_32, as_33, as_34, gi_0, gi_1, gi_5, gi_8, gi_11, gi_14, gi_18, gi_24, pi_0, pi_1, pi_5, pi_8, pi_11, pi_14, pi_18, pi_24, rc_0, rc_1, rc_5, rc_8, rc_11, rc_14, rc_18, rc_24, ln_2, ln_3, ln_4, ln_7, ln_10, ln_13, ln_15, ln_16, ln_17, ln_19, ln_20, ln_21, ln_22, ln_23, ln_25, ln_26, ln_27, ln_28, ln_29, ln_30, ln_31, ln_32, ln_33, ln_34, ln_6, ln_9, ln_12, ci_some, cv_some, lt_eq, nn_none, nn_some, setI_1, setI_at, setI_R, upd2_at, I_add, I_addn, Int32.neg_neg, I_mul, I_ltI, I_leI, I_eqI, I_nat, if_true, if_false, reduceIte, reduceIteN, I_difn, bz_0, bz_1, nz_I, I_rem, I_div, I_sub, l4095, l32, l63, l0, l1, l2, l3, l4, l5, l6, l7, l8, l9, l10, l11, l12, l16, l24, l28, l31, l40, l48, l57, l64, l68, l78, l79, l99, l255, l2000, l2187, l1000000000, hs]
  | succ k ih =>
    intro i n z f hi hn hf
    cases n with
    | zero => omega
    | succ n =>
      obtain ⟨d1, d2⟩ := drw_eq (z * 1664525 + 1013904223)
      have hp : drw (z * 1664525 + 1013904223) % σ 2 < σ 2 := Nat.mod_lt _ h0
      have ht := c_turnsOf F W C hp
      have htu := c_turned (h := h) W hf (drw (z * 1664525 + 1013904223) % σ 2)
      have hre := c_remainder (h := h) d2 (show σ 2 < 2147483648 by omega) h0
      have h11 := ih (i + 1) n (z * 1664525 + 1013904223) _ (by omega) (by omega) (fun j _ => tw_lt (c := σ 1) (by omega) f (tb1 σ (drw (z * 1664525 + 1013904223) % σ 2)) j)
      have es : sdf σ (k + 1) z f = sdf σ k (z * 1664525 + 1013904223) (tw (σ 1) f (tb1 σ (drw (z * 1664525 + 1013904223) % σ 2))) := rfl
      rw [es]
      unfold P_X5_seeds_L54
      generalize z * 1664525 + 1013904223 = z1 at *
      simp (disch := first | assumption | exact FX_setI ‹_› | exact FX_setI (FX_setI ‹_›) | exact FX_setI (FX_setI (FX_setI ‹_›)) | exact FX_setI (FX_setI (FX_setI (FX_setI ‹_›))) | omega) only [gr_0_0, gr_0_1, gr_0_2, gr_0_3, gr_0_4, gr_0_5, gr_0_6, gr_0_7, gr_1_0, gr_1_5, gr_1_7, gr_5_3, gr_5_9, gr_8_3, gr_8_9, gr_11_3, gr_11_9, gr_14_0, gr_14_1, gr_14_2, gr_18_0, gr_18_1, gr_18_2, gr_24_0, gr_24_1, gr_24_2, gr_24_3, gr_24_5, gr_24_6, gr_24_10, gr_24_11, gr_24_12, gr_24_15, al_2, al_3, al_4, al_7, al_10, al_13, al_15, al_16, al_17, al_19, al_20, al_21, al_22, al_23, al_25, al_26, al_27, al_28, al_29, al_30, al_31, al_32, al_33, al_34, as_2, as_3, as_4, as_7, as_10, as_13, as_15, as_16, as_17, as_19, as_20, as_21, as_22, as_23, as_25, as_26, as_27, as_28, as_29, as_30, as_31, as_32, as_33, as_34, gi_0, gi_1, gi_5, gi_8, gi_11, gi_14, gi_18, gi_24, pi_0, pi_1, pi_5, pi_8, pi_11, pi_14, pi_18, pi_24, rc_0, rc_1, rc_5, rc_8, rc_11, rc_14, rc_18, rc_24, ln_2, ln_3, ln_4, ln_7, ln_10, ln_13, ln_15, ln_16, ln_17, ln_19, ln_20, ln_21, ln_22, ln_23, ln_25, ln_26, ln_27, ln_28, ln_29, ln_30, ln_31, ln_32, ln_33, ln_34, ln_6, ln_9, ln_12, ci_some, cv_some, lt_eq, nn_none, nn_some, setI_1, setI_at, setI_R, upd2_at, I_add, I_addn, Int32.neg_neg, I_mul, I_ltI, I_leI, I_eqI, I_nat, if_true, if_false, reduceIte, reduceIteN, I_difn, bz_0, bz_1, nz_I, I_rem, I_div, I_sub, l4095, l32, l63, l0, l1, l2, l3, l4, l5, l6, l7, l8, l9, l10, l11, l12, l16, l24, l28, l31, l40, l48, l57, l64, l68, l78, l79, l99, l255, l2000, l2187, l1000000000, d1, k1, k2, hre, ht, htu]
      exact h11
theorem m_seeds_L {σ g : Nat → Nat} (W : WF σ) (h0 : 0 < σ 2) {N : Nat} (hN : N ≤ 99) : ∀ (k i n : Nat) (z : Int32) (f : Nat → Nat) (h : Hp), i + k = N → k < n → (∀ j, j < 12 → f j < σ 1) → KS h g → MS h (wset σ f) →
    ∃ h', P_X6_seeds_L44 n 24 (I N) z (I i) h = some (I (hr (σ 1) (sdf σ k z f) 0 (σ 0)), h') ∧ FxA [26] h h' ∧ MS h' (wset σ g) := by
  have h7 := W.2.2.1
  have hcol := W.col
  intro k
  induction k with
  | zero =>
    intro i n z f h hi hn hf K M
    cases n with
    | zero => omega
    | succ n =>
      have hs := m_stateNow W M hf
      obtain ⟨h', e1, e2, e3⟩ := m_putsBack K M
      refine ⟨h', ?_, e2, e3⟩
      have F := M.1
      unfold P_X6_seeds_L44 sdf
      simp (disch := first | assumption | exact FX_setI ‹_› | exact FX_setI (FX_setI ‹_›) | exact FX_setI (FX_setI (FX_setI ‹_›)) | exact FX_setI (FX_setI (FX_setI (FX_setI ‹_›))) | omega) only [gr_0_0, gr_0_1, gr_0_2, gr_0_3, gr_0_4, gr_0_5, gr_0_6, gr_0_7, gr_1_0, gr_1_5, gr_1_7, gr_5_3, gr_5_9, gr_8_3, gr_8_9, gr_11_3, gr_11_9, gr_14_0, gr_14_1, gr_14_2, gr_18_0, gr_18_1, gr_18_2, gr_24_0, gr_24_1, gr_24_2, gr_24_3, gr_24_5, gr_24_6, gr_24_10, gr_24_11, gr_24_12, gr_24_15, al_2, al_3, al_4, al_7, al_10, al_13, al_15, al_16, al_17, al_19, al_20, al_21, al_22, al_23, al_25, al_26, al_27, al_28, al_29, al_30, al_31, al_32, al_33, al_34, as_2, as_3, as_4, as_7, as_10, as_13, as_15, as_16, as_17, as_19, as_20, as_21, as_22, as_23, as_25, as_26, as_27, as_28, as_29, as_30, as_31, as_32, as_33, as_34, gi_0, gi_1, gi_5, gi_8, gi_11, gi_14, gi_18, gi_24, pi_0, pi_1, pi_5, pi_8, pi_11, pi_14, pi_18, pi_24, rc_0, rc_1, rc_5, rc_8, rc_11, rc_14, rc_18, rc_24, ln_2, ln_3, ln_4, ln_7, ln_10, ln_13, ln_15, ln_16, ln_17, ln_19, ln_20, ln_21, ln_22, ln_23, ln_25, ln_26, ln_27, ln_28, ln_29, ln_30, ln_31, ln_32, ln_33, ln_34, ln_6, ln_9, ln_12, ci_some, cv_some, lt_eq, nn_none, nn_some, setI_1, setI_at, setI_R, upd2_at, I_add, I_addn, Int32.neg_neg, I_mul, I_ltI, I_leI, I_eqI, I_nat, if_true, if_false, reduceIte, reduceIteN, I_difn, bz_0, bz_1, nz_I, I_rem, I_div, I_sub, l4095, l32, l63, l0, l1, l2, l3, l4, l5, l6, l7, l8, l9, l10, l11, l12, l16, l24, l28, l31, l40, l48, l57, l64, l68, l78, l79, l99, l255, l2000, l2187, l1000000000, hs, e1]
  | succ k ih =>
    intro i n z f h hi hn hf K M
    cases n with
    | zero => omega
    | succ n =>
      obtain ⟨d1, d2⟩ := drw_eq (z * 1664525 + 1013904223)
      have hp : drw (z * 1664525 + 1013904223) % σ 2 < σ 2 := Nat.mod_lt _ h0
      obtain ⟨h1, a1, a2, a3⟩ := m_goes W hp hf M
      have K1 : KS h1 g := fun j hj => by rw [a2.2.2 33 (by decide)]; exact K j hj
      obtain ⟨h2, r1, r2, r3⟩ := ih (i + 1) n (z * 1664525 + 1013904223) _ h1 (by omega) (by omega) (fun j _ => tw_lt (c := σ 1) (by omega) f (tb1 σ (drw (z * 1664525 + 1013904223) % σ 2)) j) K1 a3
      refine ⟨h2, ?_, a2.tr r2, r3⟩
      have es : sdf σ (k + 1) z f = sdf σ k (z * 1664525 + 1013904223) (tw (σ 1) f (tb1 σ (drw (z * 1664525 + 1013904223) % σ 2))) := rfl
      rw [es]
      obtain ⟨F, hs⟩ := id M
      unfold P_X6_seeds_L44
      generalize z * 1664525 + 1013904223 = z1 at *
      simp (disch := first | assumption | exact FX_setI ‹_› | exact FX_setI (FX_setI ‹_›) | exact FX_setI (FX_setI (FX_setI ‹_›)) | exact FX_setI (FX_setI (FX_setI (FX_setI ‹_›))) | omega) only [gr_0_0, gr_0_1, gr_0_2, gr_0_3, gr_0_4, gr_0_5, gr_0_6, gr_0_7, gr_1_0, gr_1_5, gr_1_7, gr_5_3, gr_5_9, gr_8_3, gr_8_9, gr_11_3, gr_11_9, gr_14_0, gr_14_1, gr_14_2, gr_18_0, gr_18_1, gr_18_2, gr_24_0, gr_24_1, gr_24_2, gr_24_3, gr_24_5, gr_24_6, gr_24_10, gr_24_11, gr_24_12, gr_24_15, al_2, al_3, al_4, al_7, al_10, al_13, al_15, al_16, al_17, al_19, al_20, al_21, al_22, al_23, al_25, al_26, al_27, al_28, al_29, al_30, al_31, al_32, al_33, al_34, as_2, as_3, as_4, as_7, as_10, as_13, as_15, as_16, as_17, as_19, as_20, as_21, as_22, as_23, as_25, as_26, as_27, as_28, as_29, as_30, as_31, as_32, as_33, as_34, gi_0, gi_1, gi_5, gi_8, gi_11, gi_14, gi_18, gi_24, pi_0, pi_1, pi_5, pi_8, pi_11, pi_14, pi_18, pi_24, rc_0, rc_1, rc_5, rc_8, rc_11, rc_14, rc_18, rc_24, ln_2, ln_3, ln_4, ln_7, ln_10, ln_13, ln_15, ln_16, ln_17, ln_19, ln_20, ln_21, ln_22, ln_23, ln_25, ln_26, ln_27, ln_28, ln_29, ln_30, ln_31, ln_32, ln_33, ln_34, ln_6, ln_9, ln_12, ci_some, cv_some, lt_eq, nn_none, nn_some, setI_1, setI_at, setI_R, upd2_at, I_add, I_addn, Int32.neg_neg, I_mul, I_ltI, I_leI, I_eqI, I_nat, if_true, if_false, reduceIte, reduceIteN, I_difn, bz_0, bz_1, nz_I, I_rem, I_div, I_sub, l4095, l32, l63, l0, l1, l2, l3, l4, l5, l6, l7, l8, l9, l10, l11, l12, l16, l24, l28, l31, l40, l48, l57, l64, l68, l78, l79, l99, l255, l2000, l2187, l1000000000, hs, wset_lo, d1, a1]
      exact r1
theorem m_within {h : Hp} {a : Int32} {lo hi : Int32} : P_X6_within a lo hi h = some (if lo ≤ a then (if a ≤ hi then I 0 else -I 6) else -I 4, h) := by
  unfold P_X6_within
  split
  · split <;> rfl
  · rfl
theorem not_le_0 {a : Int32} : ¬ I 0 ≤ a ↔ a < I 0 := by
  rw [Int32.le_iff_toInt_le, Int32.lt_iff_toInt_lt]
  omega
theorem s_seeds (a z : Int32) : Step (P_X5_seeds 0 a z) (P_X6_seeds 24 a z) := by
  intro h ⟨σ, im, n, t, ρ, G, C, M⟩
  have W := G.1
  have F := C.1
  have CC := C.2.1
  have h7 := W.2.2.1
  have k2 := CC.1.2.2.1
  by_cases h0 : I 0 ≤ a
  · by_cases h99 : a ≤ I 99
    · obtain ⟨N, hN, rfl⟩ := I_ex (fun q => not_le_0.mpr q h0)
      rw [I_leI hN (by decide)] at h99
      by_cases hz : σ 2 = 0
      · refine ref_ok (i := 3) (by decide) G C M ?_ (fun h' M' => ?_)
        · unfold P_X5_seeds
          simp (disch := first | assumption | exact FX_setI ‹_› | exact FX_setI (FX_setI ‹_›) | exact FX_setI (FX_setI (FX_setI ‹_›)) | exact FX_setI (FX_setI (FX_setI (FX_setI ‹_›))) | omega) only [gr_0_0, gr_0_1, gr_0_2, gr_0_3, gr_0_4, gr_0_5, gr_0_6, gr_0_7, gr_1_0, gr_1_5, gr_1_7, gr_5_3, gr_5_9, gr_8_3, gr_8_9, gr_11_3, gr_11_9, gr_14_0, gr_14_1, gr_14_2, gr_18_0, gr_18_1, gr_18_2, gr_24_0, gr_24_1, gr_24_2, gr_24_3, gr_24_5, gr_24_6, gr_24_10, gr_24_11, gr_24_12, gr_24_15, al_2, al_3, al_4, al_7, al_10, al_13, al_15, al_16, al_17, al_19, al_20, al_21, al_22, al_23, al_25, al_26, al_27, al_28, al_29, al_30, al_31, al_32, al_33, al_34, as_2, as_3, as_4, as_7, as_10, as_13, as_15, as_16, as_17, as_19, as_20, as_21, as_22, as_23, as_25, as_26, as_27, as_28, as_29, as_30, as_31, as_32, as_33, as_34, gi_0, gi_1, gi_5, gi_8, gi_11, gi_14, gi_18, gi_24, pi_0, pi_1, pi_5, pi_8, pi_11, pi_14, pi_18, pi_24, rc_0, rc_1, rc_5, rc_8, rc_11, rc_14, rc_18, rc_24, ln_2, ln_3, ln_4, ln_7, ln_10, ln_13, ln_15, ln_16, ln_17, ln_19, ln_20, ln_21, ln_22, ln_23, ln_25, ln_26, ln_27, ln_28, ln_29, ln_30, ln_31, ln_32, ln_33, ln_34, ln_6, ln_9, ln_12, ci_some, cv_some, lt_eq, nn_none, nn_some, setI_1, setI_at, setI_R, upd2_at, I_add, I_addn, Int32.neg_neg, I_mul, I_ltI, I_leI, I_eqI, I_nat, if_true, if_false, reduceIte, reduceIteN, I_difn, bz_0, bz_1, nz_I, I_rem, I_div, I_sub, l4095, l32, l63, l0, l1, l2, l3, l4, l5, l6, l7, l8, l9, l10, l11, l12, l16, l24, l28, l31, l40, l48, l57, l64, l68, l78, l79, l99, l255, l2000, l2187, l1000000000, k2, hz]
          rw [c_refuse F (show 3 < 7 by decide)]
          rfl
        · have hw := m_within (h := h') (a := I N) (lo := I 0) (hi := I 99)
          rw [if_pos h0, if_pos (by rw [I_leI hN (by decide)]; exact h99)] at hw
          obtain ⟨F', hs⟩ := id M'.1
          unfold P_X6_seeds
          simp (disch := first | assumption | exact FX_setI ‹_› | exact FX_setI (FX_setI ‹_›) | exact FX_setI (FX_setI (FX_setI ‹_›)) | exact FX_setI (FX_setI (FX_setI (FX_setI ‹_›))) | omega) only [gr_0_0, gr_0_1, gr_0_2, gr_0_3, gr_0_4, gr_0_5, gr_0_6, gr_0_7, gr_1_0, gr_1_5, gr_1_7, gr_5_3, gr_5_9, gr_8_3, gr_8_9, gr_11_3, gr_11_9, gr_14_0, gr_14_1, gr_14_2, gr_18_0, gr_18_1, gr_18_2, gr_24_0, gr_24_1, gr_24_2, gr_24_3, gr_24_5, gr_24_6, gr_24_10, gr_24_11, gr_24_12, gr_24_15, al_2, al_3, al_4, al_7, al_10, al_13, al_15, al_16, al_17, al_19, al_20, al_21, al_22, al_23, al_25, al_26, al_27, al_28, al_29, al_30, al_31, al_32, al_33, al_34, as_2, as_3, as_4, as_7, as_10, as_13, as_15, as_16, as_17, as_19, as_20, as_21, as_22, as_23, as_25, as_26, as_27, as_28, as_29, as_30, as_31, as_32, as_33, as_34, gi_0, gi_1, gi_5, gi_8, gi_11, gi_14, gi_18, gi_24, pi_0, pi_1, pi_5, pi_8, pi_11, pi_14, pi_18, pi_24, rc_0, rc_1, rc_5, rc_8, rc_11, rc_14, rc_18, rc_24, ln_2, ln_3, ln_4, ln_7, ln_10, ln_13, ln_15, ln_16, ln_17, ln_19, ln_20, ln_21, ln_22, ln_23, ln_25, ln_26, ln_27, ln_28, ln_29, ln_30, ln_31, ln_32, ln_33, ln_34, ln_6, ln_9, ln_12, ci_some, cv_some, lt_eq, nn_none, nn_some, setI_1, setI_at, setI_R, upd2_at, I_add, I_addn, Int32.neg_neg, I_mul, I_ltI, I_leI, I_eqI, I_nat, if_true, if_false, reduceIte, reduceIteN, I_difn, bz_0, bz_1, nz_I, I_rem, I_div, I_sub, l4095, l32, l63, l0, l1, l2, l3, l4, l5, l6, l7, l8, l9, l10, l11, l12, l16, l24, l28, l31, l40, l48, l57, l64, l68, l78, l79, l99, l255, l2000, l2187, l1000000000, hw, hs, hz]
          rw [if_neg (show ¬ -I 3 = I 0 by decide), m_refuse F' (show 3 < 7 by decide)]
          rfl
      · refine go_ok (Ac := []) (by simp) hAm2 G C M ⟨I (hr (σ 1) (sdf σ N z (cur σ)) 0 (σ 0)), h, ?_, FxA.rf, fun h' M' => ?_⟩
        · have hc := COc CC
          have hl := c_seeds_L W F CC (by omega) h99 N 0 FU z (cur σ) (by omega) (by have := FU_eq; omega) W.cur
          unfold P_X5_seeds
          simp (disch := first | assumption | exact FX_setI ‹_› | exact FX_setI (FX_setI ‹_›) | exact FX_setI (FX_setI (FX_setI ‹_›)) | exact FX_setI (FX_setI (FX_setI (FX_setI ‹_›))) | omega) only [gr_0_0, gr_0_1, gr_0_2, gr_0_3, gr_0_4, gr_0_5, gr_0_6, gr_0_7, gr_1_0, gr_1_5, gr_1_7, gr_5_3, gr_5_9, gr_8_3, gr_8_9, gr_11_3, gr_11_9, gr_14_0, gr_14_1, gr_14_2, gr_18_0, gr_18_1, gr_18_2, gr_24_0, gr_24_1, gr_24_2, gr_24_3, gr_24_5, gr_24_6, gr_24_10, gr_24_11, gr_24_12, gr_24_15, al_2, al_3, al_4, al_7, al_10, al_13, al_15, al_16, al_17, al_19, al_20, al_21, al_22, al_23, al_25, al_26, al_27, al_28, al_29, al_30, al_31, al_32, al_33, al_34, as_2, as_3, as_4, as_7, as_10, as_13, as_15, as_16, as_17, as_19, as_20, as_21, as_22, as_23, as_25, as_26, as_27, as_28, as_29, as_30, as_31, as_32, as_33, as_34, gi_0, gi_1, gi_5, gi_8, gi_11, gi_14, gi_18, gi_24, pi_0, pi_1, pi_5, pi_8, pi_11, pi_14, pi_18, pi_24, rc_0, rc_1, rc_5, rc_8, rc_11, rc_14, rc_18, rc_24, ln_2, ln_3, ln_4, ln_7, ln_10, ln_13, ln_15, ln_16, ln_17, ln_19, ln_20, ln_21, ln_22, ln_23, ln_25, ln_26, ln_27, ln_28, ln_29, ln_30, ln_31, ln_32, ln_33, ln_34, ln_6, ln_9, ln_12, ci_some, cv_some, lt_eq, nn_none, nn_some, setI_1, setI_at, setI_R, upd2_at, I_add, I_addn, Int32.neg_neg, I_mul, I_ltI, I_leI, I_eqI, I_nat, if_true, if_false, reduceIte, reduceIteN, I_difn, bz_0, bz_1, nz_I, I_rem, I_div, I_sub, l4095, l32, l63, l0, l1, l2, l3, l4, l5, l6, l7, l8, l9, l10, l11, l12, l16, l24, l28, l31, l40, l48, l57, l64, l68, l78, l79, l99, l255, l2000, l2187, l1000000000, k2, hc]
          exact hl
        · have hw := m_within (h := h') (a := I N) (lo := I 0) (hi := I 99)
          rw [if_pos h0, if_pos (by rw [I_leI hN (by decide)]; exact h99)] at hw
          obtain ⟨h1, a1, a2, a3, a4⟩ := m_keeps (MSc M')
          obtain ⟨h2, r1, r2, r3⟩ := m_seeds_L (g := cur σ) W (by omega) h99 N 0 FU z (cur σ) h1 (by omega) (by have := FU_eq; omega) W.cur a3 a4
          have A : FxA [26, 33] h' h2 := (a2.up (by simp)).tr (r2.up (by simp))
          refine ⟨h2, ?_, A, MS_uncur r3, e24_of A (by decide)⟩
          obtain ⟨F', hs⟩ := id M'
          unfold P_X6_seeds
          simp (disch := first | assumption | exact FX_setI ‹_› | exact FX_setI (FX_setI ‹_›) | exact FX_setI (FX_setI (FX_setI ‹_›)) | exact FX_setI (FX_setI (FX_setI (FX_setI ‹_›))) | omega) only [gr_0_0, gr_0_1, gr_0_2, gr_0_3, gr_0_4, gr_0_5, gr_0_6, gr_0_7, gr_1_0, gr_1_5, gr_1_7, gr_5_3, gr_5_9, gr_8_3, gr_8_9, gr_11_3, gr_11_9, gr_14_0, gr_14_1, gr_14_2, gr_18_0, gr_18_1, gr_18_2, gr_24_0, gr_24_1, gr_24_2, gr_24_3, gr_24_5, gr_24_6, gr_24_10, gr_24_11, gr_24_12, gr_24_15, al_2, al_3, al_4, al_7, al_10, al_13, al_15, al_16, al_17, al_19, al_20, al_21, al_22, al_23, al_25, al_26, al_27, al_28, al_29, al_30, al_31, al_32, al_33, al_34, as_2, as_3, as_4, as_7, as_10, as_13, as_15, as_16, as_17, as_19, as_20, as_21, as_22, as_23, as_25, as_26, as_27, as_28, as_29, as_30, as_31, as_32, as_33, as_34, gi_0, gi_1, gi_5, gi_8, gi_11, gi_14, gi_18, gi_24, pi_0, pi_1, pi_5, pi_8, pi_11, pi_14, pi_18, pi_24, rc_0, rc_1, rc_5, rc_8, rc_11, rc_14, rc_18, rc_24, ln_2, ln_3, ln_4, ln_7, ln_10, ln_13, ln_15, ln_16, ln_17, ln_19, ln_20, ln_21, ln_22, ln_23, ln_25, ln_26, ln_27, ln_28, ln_29, ln_30, ln_31, ln_32, ln_33, ln_34, ln_6, ln_9, ln_12, ci_some, cv_some, lt_eq, nn_none, nn_some, setI_1, setI_at, setI_R, upd2_at, I_add, I_addn, Int32.neg_neg, I_mul, I_ltI, I_leI, I_eqI, I_nat, if_true, if_false, reduceIte, reduceIteN, I_difn, bz_0, bz_1, nz_I, I_rem, I_div, I_sub, l4095, l32, l63, l0, l1, l2, l3, l4, l5, l6, l7, l8, l9, l10, l11, l12, l16, l24, l28, l31, l40, l48, l57, l64, l68, l78, l79, l99, l255, l2000, l2187, l1000000000, hw, hs, a1]
          exact r1
    · refine ref_ok (i := 6) (by decide) G C M ?_ (fun h' M' => ?_)
      · unfold P_X5_seeds
        simp (disch := first | assumption | exact FX_setI ‹_› | exact FX_setI (FX_setI ‹_›) | exact FX_setI (FX_setI (FX_setI ‹_›)) | exact FX_setI (FX_setI (FX_setI (FX_setI ‹_›))) | omega) only [gr_0_0, gr_0_1, gr_0_2, gr_0_3, gr_0_4, gr_0_5, gr_0_6, gr_0_7, gr_1_0, gr_1_5, gr_1_7, gr_5_3, gr_5_9, gr_8_3, gr_8_9, gr_11_3, gr_11_9, gr_14_0, gr_14_1, gr_14_2, gr_18_0, gr_18_1, gr_18_2, gr_24_0, gr_24_1, gr_24_2, gr_24_3, gr_24_5, gr_24_6, gr_24_10, gr_24_11, gr_24_12, gr_24_15, al_2, al_3, al_4, al_7, al_10, al_13, al_15, al_16, al_17, al_19, al_20, al_21, al_22, al_23, al_25, al_26, al_27, al_28, al_29, al_30, al_31, al_32, al_33, al_34, as_2, as_3, as_4, as_7, as_10, as_13, as_15, as_16, as_17, as_19, as_20, as_21, as_22, as_23, as_25, as_26, as_27, as_28, as_29, as_30, as_31, as_32, as_33, as_34, gi_0, gi_1, gi_5, gi_8, gi_11, gi_14, gi_18, gi_24, pi_0, pi_1, pi_5, pi_8, pi_11, pi_14, pi_18, pi_24, rc_0, rc_1, rc_5, rc_8, rc_11, rc_14, rc_18, rc_24, ln_2, ln_3, ln_4, ln_7, ln_10, ln_13, ln_15, ln_16, ln_17, ln_19, ln_20, ln_21, ln_22, ln_23, ln_25, ln_26, ln_27, ln_28, ln_29, ln_30, ln_31, ln_32, ln_33, ln_34, ln_6, ln_9, ln_12, ci_some, cv_some, lt_eq, nn_none, nn_some, setI_1, setI_at, setI_R, upd2_at, I_add, I_addn, Int32.neg_neg, I_mul, I_ltI, I_leI, I_eqI, I_nat, if_true, if_false, reduceIte, reduceIteN, I_difn, bz_0, bz_1, nz_I, I_rem, I_div, I_sub, l4095, l32, l63, l0, l1, l2, l3, l4, l5, l6, l7, l8, l9, l10, l11, l12, l16, l24, l28, l31, l40, l48, l57, l64, l68, l78, l79, l99, l255, l2000, l2187, l1000000000]
        rw [c_refuse F (show 6 < 7 by decide)]
        rfl
      · have hw := m_within (h := h') (a := a) (lo := I 0) (hi := I 99)
        rw [if_pos h0, if_neg h99] at hw
        have F' := M'.1.1
        unfold P_X6_seeds
        simp (disch := first | assumption | exact FX_setI ‹_› | exact FX_setI (FX_setI ‹_›) | exact FX_setI (FX_setI (FX_setI ‹_›)) | exact FX_setI (FX_setI (FX_setI (FX_setI ‹_›))) | omega) only [gr_0_0, gr_0_1, gr_0_2, gr_0_3, gr_0_4, gr_0_5, gr_0_6, gr_0_7, gr_1_0, gr_1_5, gr_1_7, gr_5_3, gr_5_9, gr_8_3, gr_8_9, gr_11_3, gr_11_9, gr_14_0, gr_14_1, gr_14_2, gr_18_0, gr_18_1, gr_18_2, gr_24_0, gr_24_1, gr_24_2, gr_24_3, gr_24_5, gr_24_6, gr_24_10, gr_24_11, gr_24_12, gr_24_15, al_2, al_3, al_4, al_7, al_10, al_13, al_15, al_16, al_17, al_19, al_20, al_21, al_22, al_23, al_25, al_26, al_27, al_28, al_29, al_30, al_31, al_32, al_33, al_34, as_2, as_3, as_4, as_7, as_10, as_13, as_15, as_16, as_17, as_19, as_20, as_21, as_22, as_23, as_25, as_26, as_27, as_28, as_29, as_30, as_31, as_32, as_33, as_34, gi_0, gi_1, gi_5, gi_8, gi_11, gi_14, gi_18, gi_24, pi_0, pi_1, pi_5, pi_8, pi_11, pi_14, pi_18, pi_24, rc_0, rc_1, rc_5, rc_8, rc_11, rc_14, rc_18, rc_24, ln_2, ln_3, ln_4, ln_7, ln_10, ln_13, ln_15, ln_16, ln_17, ln_19, ln_20, ln_21, ln_22, ln_23, ln_25, ln_26, ln_27, ln_28, ln_29, ln_30, ln_31, ln_32, ln_33, ln_34, ln_6, ln_9, ln_12, ci_some, cv_some, lt_eq, nn_none, nn_some, setI_1, setI_at, setI_R, upd2_at, I_add, I_addn, Int32.neg_neg, I_mul, I_ltI, I_leI, I_eqI, I_nat, if_true, if_false, reduceIte, reduceIteN, I_difn, bz_0, bz_1, nz_I, I_rem, I_div, I_sub, l4095, l32, l63, l0, l1, l2, l3, l4, l5, l6, l7, l8, l9, l10, l11, l12, l16, l24, l28, l31, l40, l48, l57, l64, l68, l78, l79, l99, l255, l2000, l2187, l1000000000, hw]
        rw [m_refuse F' (show 6 < 7 by decide)]
        rfl
  · refine ref_ok (i := 4) (by decide) G C M ?_ (fun h' M' => ?_)
    · unfold P_X5_seeds
      simp (disch := first | assumption | exact FX_setI ‹_› | exact FX_setI (FX_setI ‹_›) | exact FX_setI (FX_setI (FX_setI ‹_›)) | exact FX_setI (FX_setI (FX_setI (FX_setI ‹_›))) | omega) only [gr_0_0, gr_0_1, gr_0_2, gr_0_3, gr_0_4, gr_0_5, gr_0_6, gr_0_7, gr_1_0, gr_1_5, gr_1_7, gr_5_3, gr_5_9, gr_8_3, gr_8_9, gr_11_3, gr_11_9, gr_14_0, gr_14_1, gr_14_2, gr_18_0, gr_18_1, gr_18_2, gr_24_0, gr_24_1, gr_24_2, gr_24_3, gr_24_5, gr_24_6, gr_24_10, gr_24_11, gr_24_12, gr_24_15, al_2, al_3, al_4, al_7, al_10, al_13, al_15, al_16, al_17, al_19, al_20, al_21, al_22, al_23, al_25, al_26, al_27, al_28, al_29, al_30, al_31, al_32, al_33, al_34, as_2, as_3, as_4, as_7, as_10, as_13, as_15, as_16, as_17, as_19, as_20, as_21, as_22, as_23, as_25, as_26, as_27, as_28, as_29, as_30, as_31, as_32, as_33, as_34, gi_0, gi_1, gi_5, gi_8, gi_11, gi_14, gi_18, gi_24, pi_0, pi_1, pi_5, pi_8, pi_11, pi_14, pi_18, pi_24, rc_0, rc_1, rc_5, rc_8, rc_11, rc_14, rc_18, rc_24, ln_2, ln_3, ln_4, ln_7, ln_10, ln_13, ln_15, ln_16, ln_17, ln_19, ln_20, ln_21, ln_22, ln_23, ln_25, ln_26, ln_27, ln_28, ln_29, ln_30, ln_31, ln_32, ln_33, ln_34, ln_6, ln_9, ln_12, ci_some, cv_some, lt_eq, nn_none, nn_some, setI_1, setI_at, setI_R, upd2_at, I_add, I_addn, Int32.neg_neg, I_mul, I_ltI, I_leI, I_eqI, I_nat, if_true, if_false, reduceIte, reduceIteN, I_difn, bz_0, bz_1, nz_I, I_rem, I_div, I_sub, l4095, l32, l63, l0, l1, l2, l3, l4, l5, l6, l7, l8, l9, l10, l11, l12, l16, l24, l28, l31, l40, l48, l57, l64, l68, l78, l79, l99, l255, l2000, l2187, l1000000000]
      rw [c_refuse F (show 4 < 7 by decide)]
      rfl
    · have hw := m_within (h := h') (a := a) (lo := I 0) (hi := I 99)
      rw [if_neg h0] at hw
      have F' := M'.1.1
      unfold P_X6_seeds
      simp (disch := first | assumption | exact FX_setI ‹_› | exact FX_setI (FX_setI ‹_›) | exact FX_setI (FX_setI (FX_setI ‹_›)) | exact FX_setI (FX_setI (FX_setI (FX_setI ‹_›))) | omega) only [gr_0_0, gr_0_1, gr_0_2, gr_0_3, gr_0_4, gr_0_5, gr_0_6, gr_0_7, gr_1_0, gr_1_5, gr_1_7, gr_5_3, gr_5_9, gr_8_3, gr_8_9, gr_11_3, gr_11_9, gr_14_0, gr_14_1, gr_14_2, gr_18_0, gr_18_1, gr_18_2, gr_24_0, gr_24_1, gr_24_2, gr_24_3, gr_24_5, gr_24_6, gr_24_10, gr_24_11, gr_24_12, gr_24_15, al_2, al_3, al_4, al_7, al_10, al_13, al_15, al_16, al_17, al_19, al_20, al_21, al_22, al_23, al_25, al_26, al_27, al_28, al_29, al_30, al_31, al_32, al_33, al_34, as_2, as_3, as_4, as_7, as_10, as_13, as_15, as_16, as_17, as_19, as_20, as_21, as_22, as_23, as_25, as_26, as_27, as_28, as_29, as_30, as_31, as_32, as_33, as_34, gi_0, gi_1, gi_5, gi_8, gi_11, gi_14, gi_18, gi_24, pi_0, pi_1, pi_5, pi_8, pi_11, pi_14, pi_18, pi_24, rc_0, rc_1, rc_5, rc_8, rc_11, rc_14, rc_18, rc_24, ln_2, ln_3, ln_4, ln_7, ln_10, ln_13, ln_15, ln_16, ln_17, ln_19, ln_20, ln_21, ln_22, ln_23, ln_25, ln_26, ln_27, ln_28, ln_29, ln_30, ln_31, ln_32, ln_33, ln_34, ln_6, ln_9, ln_12, ci_some, cv_some, lt_eq, nn_none, nn_some, setI_1, setI_at, setI_R, upd2_at, I_add, I_addn, Int32.neg_neg, I_mul, I_ltI, I_leI, I_eqI, I_nat, if_true, if_false, reduceIte, reduceIteN, I_difn, bz_0, bz_1, nz_I, I_rem, I_div, I_sub, l4095, l32, l63, l0, l1, l2, l3, l4, l5, l6, l7, l8, l9, l10, l11, l12, l16, l24, l28, l31, l40, l48, l57, l64, l68, l78, l79, l99, l255, l2000, l2187, l1000000000, hw]
      rw [m_refuse F' (show 4 < 7 by decide)]
      rfl
