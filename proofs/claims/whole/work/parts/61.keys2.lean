def rk (P : Nat → Nat → Nat) (n : Nat) : Nat := cnt (fun i => !decide (P i i = 0)) n
theorem cnt_upd {f g : Nat → Bool} {i0 : Nat} : ∀ n, i0 < n → f i0 = false → g i0 = true → (∀ i, i < n → i ≠ i0 → g i = f i) → cnt g n = cnt f n + 1
  | 0, h, _, _, _ => by omega
  | n + 1, h, hf, hg, he => by
    rw [cnt_succ, cnt_succ]
    by_cases hn : i0 = n
    · rw [cnt_congr (f := g) (g := f) n (fun i hi => he i (by omega) (by omega)), ← hn, hf, hg]
      simp
    · rw [cnt_upd n (by omega) hf hg (fun i hi hne => he i (by omega) hne), he n (by omega) (fun z => hn z.symm)]
      omega
theorem cnt_full {f : Nat → Bool} : ∀ n, cnt f n = n → ∀ i, i < n → f i = true
  | 0, _, i, hi => by omega
  | n + 1, h, i, hi => by
    rw [cnt_succ] at h
    have h1 := cnt_le f n
    by_cases hf : f n = true
    · rw [if_pos hf] at h
      by_cases hin : i = n
      · rw [hin]; exact hf
      · exact cnt_full n (by omega) i (by omega)
    · rw [if_neg hf] at h
      omega
theorem PO_Pi {σ : Nat → Nat} {P : Nat → Nat → Nat} {i0 : Nat} {v : Nat → Nat} (O : PO σ P) (V : VO σ v) (hz : ∀ j, j < i0 → v j = 0) (h0 : v i0 ≠ 0) : PO σ (Pi P i0 v) := by
  refine ⟨fun q j hj => ?_, fun q => ?_, fun q => ?_⟩
  · unfold Pi
    split
    · exact hz j (by omega)
    · exact O.1 q j hj
  · unfold Pi
    split
    · next h => right; rw [h]; exact h0
    · exact O.2.1 q
  · unfold Pi
    split
    · exact V
    · exact O.2.2 q
/-- what holds behind the first p people of the set S -/
def KI (σ : Nat → Nat) (S p R : Nat) (h : Hp) : Prop := ∃ P K, PH h P ∧ PO σ P ∧ NS (σ 1) (tv σ) S p P K ∧ K * σ 1 ^ R = σ 1 ^ cnt (fun q => S.testBit q) p ∧ R = rk P (σ 0)
theorem c_bring_L29 {σ : Nat → Nat} (W : WF σ) {S : Nat} (hS : S < 128) : ∀ (k p R n : Nat) (h : Hp), p + k = σ 2 → k < n → FX h → CO h 5 σ → KI σ S p R h →
    ∃ h' R', P_X4_bringAll_L29 n 14 5 (I S) (I R) (I p) h = some (if R' = σ 0 then I 1 else I 0, h') ∧ FxA [17] h h' ∧ KI σ S (σ 2) R' h' := by
  have hn0 := W.1
  have h7 := W.2.2.1
  intro k
  induction k with
  | zero =>
    intro p R n h hp hn F C J
    cases n with
    | zero => omega
    | succ n =>
      have : p = σ 2 := by omega
      subst this
      have k0 := C.1.1
      have k2 := C.1.2.2.1
      obtain ⟨P, K, j1, j2, j3, j4, j5⟩ := id J
      have hR : R ≤ σ 0 := by rw [j5]; exact cnt_le _ _
      refine ⟨h, R, ?_, FxA.rf, J⟩
      unfold P_X4_bringAll_L29
      simp (disch := first | assumption | exact FX_setI ‹_› | exact FX_setI (FX_setI ‹_›) | exact FX_setI (FX_setI (FX_setI ‹_›)) | exact FX_setI (FX_setI (FX_setI (FX_setI ‹_›))) | omega) only [gr_0_0, gr_0_1, gr_0_2, gr_0_3, gr_0_4, gr_0_5, gr_0_6, gr_0_7, gr_1_0, gr_1_5, gr_1_7, gr_5_3, gr_5_9, gr_8_3, gr_8_9, gr_11_3, gr_11_9, gr_14_0, gr_14_1, gr_14_2, gr_18_0, gr_18_1, gr_18_2, gr_24_0, gr_24_1, gr_24_2, gr_24_3, gr_24_5, gr_24_6, gr_24_10, gr_24_11, gr_24_12, gr_24_15, al_2, al_3, al_4, al_7, al_10, al_13, al_15, al_16, al_17, al_19, al_20, al_21, al_22, al_23, al_25, al_26, al_27, al_28, al_29, al_30, al_31, al_32, al_33, al_34, as_2, as_3, as_4, as_7, as_10, as_13, as_15, as_16, as_17, as_19, as_20, as_21, as_22, as_23, as_25, as_26, as_27, as_28, as_29, as_30, as_31, as_32, as_33, as_34, gi_0, gi_1, gi_5, gi_8, gi_11, gi_14, gi_18, gi_24, pi_0, pi_1, pi_5, pi_8, pi_11, pi_14, pi_18, pi_24, rc_0, rc_1, rc_5, rc_8, rc_11, rc_14, rc_18, rc_24, ln_2, ln_3, ln_4, ln_7, ln_10, ln_13, ln_15, ln_16, ln_17, ln_19, ln_20, ln_21, ln_22, ln_23, ln_25, ln_26, ln_27, ln_28, ln_29, ln_30, ln_31, ln_32, ln_33, ln_34, ln_6, ln_9, ln_12, ciN, cvN, lt_eq, nn_none, nn_some, setI_1, setI_at, setI_R, upd2_at, I_add, I_addn, Int32.neg_neg, I_mul, I_ltI, I_leI, I_eqI, I_nat, if_true, if_false, reduceIte, reduceIteN, I_difn, bz_0, bz_1, nz_I, I_rem, I_div, I_sub, l4095, l32, l63, l0, l1, l2, l3, l4, l5, l6, l7, l8, l9, l10, l11, l12, l16, l24, l28, l31, l40, l48, l57, l64, l68, l78, l79, l99, l255, l2000, l2187, l1000000000, k0, k2]
      split <;> rfl
  | succ k ih =>
    intro p R n h hp hn F C J
    cases n with
    | zero => omega
    | succ n =>
      have hp2 : p < σ 2 := by omega
      have k0 := C.1.1
      have k2 := C.1.2.2.1
      obtain ⟨P, K, j1, j2, j3, j4, j5⟩ := id J
      have hb1 : S >>> p &&& 1 < 2 := by rw [Nat.and_one_is_mod]; omega
      have hsb := shr_bit S p
      cases hb : S.testBit p
      · have hb0 : S >>> p &&& 1 = 0 := by
          rw [hb] at hsb
          have : ¬ S >>> p &&& 1 = 1 := by rw [hsb]; decide
          omega
        obtain ⟨h', R', r1, r2, r3⟩ := ih (p + 1) R n h (by omega) (by omega) F C ⟨P, K, j1, j2, NS_skip W.2.1 hb j3, by rw [cnt_succ, hb]; exact j4, j5⟩
        refine ⟨h', R', ?_, r2, r3⟩
        unfold P_X4_bringAll_L29
        simp (disch := first | assumption | exact FX_setI ‹_› | exact FX_setI (FX_setI ‹_›) | exact FX_setI (FX_setI (FX_setI ‹_›)) | exact FX_setI (FX_setI (FX_setI (FX_setI ‹_›))) | omega) only [gr_0_0, gr_0_1, gr_0_2, gr_0_3, gr_0_4, gr_0_5, gr_0_6, gr_0_7, gr_1_0, gr_1_5, gr_1_7, gr_5_3, gr_5_9, gr_8_3, gr_8_9, gr_11_3, gr_11_9, gr_14_0, gr_14_1, gr_14_2, gr_18_0, gr_18_1, gr_18_2, gr_24_0, gr_24_1, gr_24_2, gr_24_3, gr_24_5, gr_24_6, gr_24_10, gr_24_11, gr_24_12, gr_24_15, al_2, al_3, al_4, al_7, al_10, al_13, al_15, al_16, al_17, al_19, al_20, al_21, al_22, al_23, al_25, al_26, al_27, al_28, al_29, al_30, al_31, al_32, al_33, al_34, as_2, as_3, as_4, as_7, as_10, as_13, as_15, as_16, as_17, as_19, as_20, as_21, as_22, as_23, as_25, as_26, as_27, as_28, as_29, as_30, as_31, as_32, as_33, as_34, gi_0, gi_1, gi_5, gi_8, gi_11, gi_14, gi_18, gi_24, pi_0, pi_1, pi_5, pi_8, pi_11, pi_14, pi_18, pi_24, rc_0, rc_1, rc_5, rc_8, rc_11, rc_14, rc_18, rc_24, ln_2, ln_3, ln_4, ln_7, ln_10, ln_13, ln_15, ln_16, ln_17, ln_19, ln_20, ln_21, ln_22, ln_23, ln_25, ln_26, ln_27, ln_28, ln_29, ln_30, ln_31, ln_32, ln_33, ln_34, ln_6, ln_9, ln_12, ciN, cvN, lt_eq, nn_none, nn_some, setI_1, setI_at, setI_R, upd2_at, I_add, I_addn, Int32.neg_neg, I_mul, I_ltI, I_leI, I_eqI, I_nat, if_true, if_false, reduceIte, reduceIteN, I_difn, bz_0, bz_1, nz_I, I_rem, I_div, I_sub, l4095, l32, l63, l0, l1, l2, l3, l4, l5, l6, l7, l8, l9, l10, l11, l12, l16, l24, l28, l31, l40, l48, l57, l64, l68, l78, l79, l99, l255, l2000, l2187, l1000000000, k2, I_shr, I_and, hb0]
        exact r1
      · have hb0 : S >>> p &&& 1 = 1 := by rw [hsb]; exact hb
        have ht := c_turnsOf F W C hp2
        rw [tm_enc W] at ht
        rcases c_pivot_L W j2 F C j1 (σ 0) 0 FU (tv σ p) (by omega) (by have := FU_eq; omega) (VO_tv W p) (fun j hj => by omega) with ⟨a1, a2⟩ | ⟨i0, v', h1, a1, a2, a3, a4, a5, a6, a7, a8, a9⟩
        · have hf : P_X4_findPivot 14 5 (I (enc (tv σ p))) h = some (I 0, h) := by unfold P_X4_findPivot; exact a1
          obtain ⟨h', R', r1, r2, r3⟩ := ih (p + 1) R n h (by omega) (by omega) F C ⟨P, σ 1 * K, j1, j2, NS_in W.2.1 hb a2 j3, by rw [cnt_succ, hb, if_pos rfl, Nat.pow_succ, ← j4, Nat.mul_assoc, Nat.mul_comm], j5⟩
          refine ⟨h', R', ?_, r2, r3⟩
          unfold P_X4_bringAll_L29
          simp (disch := first | assumption | exact FX_setI ‹_› | exact FX_setI (FX_setI ‹_›) | exact FX_setI (FX_setI (FX_setI ‹_›)) | exact FX_setI (FX_setI (FX_setI (FX_setI ‹_›))) | omega) only [gr_0_0, gr_0_1, gr_0_2, gr_0_3, gr_0_4, gr_0_5, gr_0_6, gr_0_7, gr_1_0, gr_1_5, gr_1_7, gr_5_3, gr_5_9, gr_8_3, gr_8_9, gr_11_3, gr_11_9, gr_14_0, gr_14_1, gr_14_2, gr_18_0, gr_18_1, gr_18_2, gr_24_0, gr_24_1, gr_24_2, gr_24_3, gr_24_5, gr_24_6, gr_24_10, gr_24_11, gr_24_12, gr_24_15, al_2, al_3, al_4, al_7, al_10, al_13, al_15, al_16, al_17, al_19, al_20, al_21, al_22, al_23, al_25, al_26, al_27, al_28, al_29, al_30, al_31, al_32, al_33, al_34, as_2, as_3, as_4, as_7, as_10, as_13, as_15, as_16, as_17, as_19, as_20, as_21, as_22, as_23, as_25, as_26, as_27, as_28, as_29, as_30, as_31, as_32, as_33, as_34, gi_0, gi_1, gi_5, gi_8, gi_11, gi_14, gi_18, gi_24, pi_0, pi_1, pi_5, pi_8, pi_11, pi_14, pi_18, pi_24, rc_0, rc_1, rc_5, rc_8, rc_11, rc_14, rc_18, rc_24, ln_2, ln_3, ln_4, ln_7, ln_10, ln_13, ln_15, ln_16, ln_17, ln_19, ln_20, ln_21, ln_22, ln_23, ln_25, ln_26, ln_27, ln_28, ln_29, ln_30, ln_31, ln_32, ln_33, ln_34, ln_6, ln_9, ln_12, ciN, cvN, lt_eq, nn_none, nn_some, setI_1, setI_at, setI_R, upd2_at, I_add, I_addn, Int32.neg_neg, I_mul, I_ltI, I_leI, I_eqI, I_nat, if_true, if_false, reduceIte, reduceIteN, I_difn, bz_0, bz_1, nz_I, I_rem, I_div, I_sub, l4095, l32, l63, l0, l1, l2, l3, l4, l5, l6, l7, l8, l9, l10, l11, l12, l16, l24, l28, l31, l40, l48, l57, l64, l68, l78, l79, l99, l255, l2000, l2187, l1000000000, k2, I_shr, I_and, hb0, ht, hf]
          exact r1
        · have hf : P_X4_findPivot 14 5 (I (enc (tv σ p))) h = some (I 1, h1) := by unfold P_X4_findPivot; exact a1
          have hcol := W.col
          have F1 := a2.fx F
          have C1 := CO_fx a2 (by simp) C
          have i12 : i0 < 12 := by omega
          have E := PO_Ech j2
          have nv : ¬ Sq (σ 1) P 12 v' := fun s => by
            have := Sq_no W.2.1 E i12 a4 (fun j hj => by rw [a7 j hj, Nat.zero_mod]) s
            rw [Nat.mod_eq_of_lt (a6.1 i0)] at this
            exact a8 this
          have nt : ¬ Sq (σ 1) P 12 (tv σ p) := fun s => nv (by
            have := (a9 (fun _ => 0) 1).mpr (Sq_eq (fun j => by unfold va; simp) s)
            exact Sq_eq (fun j => by unfold va; simp) this)
          have hP : ∀ w, Sq (σ 1) (Pi P i0 v') 12 w ↔ ∃ a, Sq (σ 1) P 12 (va w a (tv σ p)) := fun w => by
            rw [Sq_ins i12 a4 (by omega) (Nat.le_refl 12)]
            exact exists_congr (fun a => a9 w a)
          obtain ⟨h', R', r1, r2, r3⟩ := ih (p + 1) (R + 1) n h1 (by omega) (by omega) F1 C1 ⟨Pi P i0 v', K, a5, PO_Pi j2 a6 a7 a8, NS_out W.2.1 hb nt hP j3, by rw [cnt_succ, hb, if_pos rfl, Nat.pow_succ, Nat.pow_succ, ← Nat.mul_assoc, j4], by
            rw [j5]
            refine (cnt_upd (i0 := i0) (σ 0) a3 ?_ ?_ ?_).symm
            · simp [a4]
            · show (!decide (Pi P i0 v' i0 i0 = 0)) = true
              unfold Pi
              rw [if_pos rfl]
              simp [a8]
            · intro i hi hne
              show (!decide (Pi P i0 v' i i = 0)) = _
              unfold Pi
              rw [if_neg hne]⟩
          refine ⟨h', R', ?_, a2.tr r2, r3⟩
          unfold P_X4_bringAll_L29
          simp (disch := first | assumption | exact FX_setI ‹_› | exact FX_setI (FX_setI ‹_›) | exact FX_setI (FX_setI (FX_setI ‹_›)) | exact FX_setI (FX_setI (FX_setI (FX_setI ‹_›))) | omega) only [gr_0_0, gr_0_1, gr_0_2, gr_0_3, gr_0_4, gr_0_5, gr_0_6, gr_0_7, gr_1_0, gr_1_5, gr_1_7, gr_5_3, gr_5_9, gr_8_3, gr_8_9, gr_11_3, gr_11_9, gr_14_0, gr_14_1, gr_14_2, gr_18_0, gr_18_1, gr_18_2, gr_24_0, gr_24_1, gr_24_2, gr_24_3, gr_24_5, gr_24_6, gr_24_10, gr_24_11, gr_24_12, gr_24_15, al_2, al_3, al_4, al_7, al_10, al_13, al_15, al_16, al_17, al_19, al_20, al_21, al_22, al_23, al_25, al_26, al_27, al_28, al_29, al_30, al_31, al_32, al_33, al_34, as_2, as_3, as_4, as_7, as_10, as_13, as_15, as_16, as_17, as_19, as_20, as_21, as_22, as_23, as_25, as_26, as_27, as_28, as_29, as_30, as_31, as_32, as_33, as_34, gi_0, gi_1, gi_5, gi_8, gi_11, gi_14, gi_18, gi_24, pi_0, pi_1, pi_5, pi_8, pi_11, pi_14, pi_18, pi_24, rc_0, rc_1, rc_5, rc_8, rc_11, rc_14, rc_18, rc_24, ln_2, ln_3, ln_4, ln_7, ln_10, ln_13, ln_15, ln_16, ln_17, ln_19, ln_20, ln_21, ln_22, ln_23, ln_25, ln_26, ln_27, ln_28, ln_29, ln_30, ln_31, ln_32, ln_33, ln_34, ln_6, ln_9, ln_12, ciN, cvN, lt_eq, nn_none, nn_some, setI_1, setI_at, setI_R, upd2_at, I_add, I_addn, Int32.neg_neg, I_mul, I_ltI, I_leI, I_eqI, I_nat, if_true, if_false, reduceIte, reduceIteN, I_difn, bz_0, bz_1, nz_I, I_rem, I_div, I_sub, l4095, l32, l63, l0, l1, l2, l3, l4, l5, l6, l7, l8, l9, l10, l11, l12, l16, l24, l28, l31, l40, l48, l57, l64, l68, l78, l79, l99, l255, l2000, l2187, l1000000000, k2, I_shr, I_and, hb0, ht, hf]
          exact r1
theorem c_bring_L2 {σ : Nat → Nat} (W : WF σ) (v2 : Int32) (kont : Hp → Option (Int32 × Hp)) : ∀ (k i n : Nat) (h : Hp), i + k = 13 → k < n → FX h → (∀ j, j < i → h.2.1 17 j = I 0) →
    ∃ h', P_X4_bringAll_L2 n 14 5 v2 (I i) h kont = kont h' ∧ FxA [17] h h' ∧ ∀ j, j < 13 → h'.2.1 17 j = I 0 := by
  intro k
  induction k with
  | zero =>
    intro i n h hi hn F J
    cases n with
    | zero => omega
    | succ n =>
      have : i = 13 := by omega
      subst this
      refine ⟨h, ?_, FxA.rf, J⟩
      unfold P_X4_bringAll_L2
      simp (disch := first | assumption | exact FX_setI ‹_› | exact FX_setI (FX_setI ‹_›) | exact FX_setI (FX_setI (FX_setI ‹_›)) | exact FX_setI (FX_setI (FX_setI (FX_setI ‹_›))) | omega) only [gr_0_0, gr_0_1, gr_0_2, gr_0_3, gr_0_4, gr_0_5, gr_0_6, gr_0_7, gr_1_0, gr_1_5, gr_1_7, gr_5_3, gr_5_9, gr_8_3, gr_8_9, gr_11_3, gr_11_9, gr_14_0, gr_14_1, gr_14_2, gr_18_0, gr_18_1, gr_18_2, gr_24_0, gr_24_1, gr_24_2, gr_24_3, gr_24_5, gr_24_6, gr_24_10, gr_24_11, gr_24_12, gr_24_15, al_2, al_3, al_4, al_7, al_10, al_13, al_15, al_16, al_17, al_19, al_20, al_21, al_22, al_23, al_25, al_26, al_27, al_28, al_29, al_30, al_31, al_32, al_33, al_34, as_2, as_3, as_4, as_7, as_10, as_13, as_15, as_16, as_17, as_19, as_20, as_21, as_22, as_23, as_25, as_26, as_27, as_28, as_29, as_30, as_31, as_32, as_33, as_34, gi_0, gi_1, gi_5, gi_8, gi_11, gi_14, gi_18, gi_24, pi_0, pi_1, pi_5, pi_8, pi_11, pi_14, pi_18, pi_24, rc_0, rc_1, rc_5, rc_8, rc_11, rc_14, rc_18, rc_24, ln_2, ln_3, ln_4, ln_7, ln_10, ln_13, ln_15, ln_16, ln_17, ln_19, ln_20, ln_21, ln_22, ln_23, ln_25, ln_26, ln_27, ln_28, ln_29, ln_30, ln_31, ln_32, ln_33, ln_34, ln_6, ln_9, ln_12, ciN, cvN, lt_eq, nn_none, nn_some, setI_1, setI_at, setI_R, upd2_at, I_add, I_addn, Int32.neg_neg, I_mul, I_ltI, I_leI, I_eqI, I_nat, if_true, if_false, reduceIte, reduceIteN, I_difn, bz_0, bz_1, nz_I, I_rem, I_div, I_sub, l4095, l32, l63, l0, l1, l2, l3, l4, l5, l6, l7, l8, l9, l10, l11, l12, l16, l24, l28, l31, l40, l48, l57, l64, l68, l78, l79, l99, l255, l2000, l2187, l1000000000, show I 13 ≤ I 13 from Int32.le_refl _]
  | succ k ih =>
    intro i n h hi hn F J
    cases n with
    | zero => omega
    | succ n =>
      have A1 : FxA [17] h (setI h 17 i (I 0)) := FxA.set (by simp)
      obtain ⟨h', r1, r2, r3⟩ := ih (i + 1) n (setI h 17 i (I 0)) (by omega) (by omega) (FX_setI F) (fun j hj => by
        rw [setI_at]
        by_cases hji : j = i
        · rw [if_pos ⟨rfl, hji⟩]
        · rw [if_neg (fun z => hji z.2)]
          exact J j (by omega))
      refine ⟨h', ?_, A1.tr r2, r3⟩
      unfold P_X4_bringAll_L2
      rw [gr_14_2 F, ln_17 F, if_neg (show ¬ I 13 ≤ I i by rw [I_leI (by decide) (by omega)]; omega), gr_14_2 F, as_17 F (by omega), lt_eq, I1]
      exact r1
/-- a key: the set brings all ends about -/
def gk (σ : Nat → Nat) (S : Nat) : Bool := decide (cnt (fun i => decide (σ (28 + i) = 1)) (σ 0) = 0) && decide (σ 0 ≤ cnt (fun q => S.testBit q) (σ 2)) && decide (σ 1 ^ cnt (fun q => S.testBit q) (σ 2) / cnt (nbp σ S) (σ 1 ^ σ 2) = σ 1 ^ σ 0)
theorem nbp_Nc {σ : Nat → Nat} (W : WF σ) (S : Nat) : cnt (nbp σ S) (σ 1 ^ σ 2) = Nc (σ 1) (tv σ) S (σ 2) (fun _ => 0) := by
  have hcol := W.col
  have hn0 := W.1
  unfold Nc
  apply cnt_congr
  intro row _
  unfold nbp
  congr 1
  have e : ∀ i, mw σ zf row i = (0 + sm (fun p => dgt (σ 1) row p * tv σ p i) (σ 2)) % σ 1 := by
    intro i
    unfold mw wy zf
    congr 2
    apply sm_congr
    intro p _
    unfold tv
    split <;> simp
  have key : (hr (σ 1) (mw σ zf row) 0 (σ 0) = 0) ↔ vzb (σ 1) (fun i => 0 + sm (fun p => dgt (σ 1) row p * tv σ p i) (σ 2)) = true := by
    have hh := hr_zero (c := σ 1) (f := mw σ zf row) (σ 0) (fun i _ => wy_lt W zf (dgt (σ 1) row) (σ 2) i)
    rw [hh, vzb_iff]
    constructor
    · intro h i hi
      by_cases hin : i < σ 0
      · rw [← e]; exact h i hin
      · rw [← e]
        unfold mw
        rw [wy_beyond (f := zf) W (by omega) (by unfold zf; omega)]
        rfl
    · intro h i hi
      rw [e]
      exact h i (by omega)
  cases hv : vzb (σ 1) (fun i => 0 + sm (fun p => dgt (σ 1) row p * tv σ p i) (σ 2))
  · rw [decide_eq_false_iff_not, key, hv]; decide
  · rw [decide_eq_true_eq, key, hv]
theorem pow_inj' {c a b : Nat} (hc : 2 ≤ c) (h : c ^ a = c ^ b) : a = b := by
  rcases Nat.lt_trichotomy a b with q | q | q
  · have := Nat.pow_lt_pow_right (a := c) (by omega) q; omega
  · exact q
  · have := Nat.pow_lt_pow_right (a := c) (by omega) q; omega
theorem KI_gk {σ : Nat → Nat} (W : WF σ) {S R : Nat} {h : Hp} (J : KI σ S (σ 2) R h) : (R = σ 0) ↔ gk σ S = true := by
  have hcol := W.col
  have hn0 := W.1
  obtain ⟨P, K, j1, j2, j3, j4, j5⟩ := J
  have hK : Nc (σ 1) (tv σ) S (σ 2) (fun _ => 0) = K := (j3 _).1 (Sq_zero 12)
  have cp : ∀ e, 0 < σ 1 ^ e := fun e => cpos (by omega) e
  have hKp : 0 < K := by
    rcases Nat.eq_zero_or_pos K with z | z
    · rw [z, Nat.zero_mul] at j4
      have := cp (cnt (fun q => S.testBit q) (σ 2))
      omega
    · exact z
  have hdiv : σ 1 ^ cnt (fun q => S.testBit q) (σ 2) / cnt (nbp σ S) (σ 1 ^ σ 2) = σ 1 ^ R := by
    rw [nbp_Nc W, hK, ← j4, Nat.mul_div_cancel_left _ hKp]
  have hRb : R ≤ cnt (fun q => S.testBit q) (σ 2) := by
    rcases Nat.lt_or_ge (cnt (fun q => S.testBit q) (σ 2)) R with q | q
    · have a1 := Nat.pow_lt_pow_right (a := σ 1) (by omega) q
      have a2 : 1 * σ 1 ^ R ≤ K * σ 1 ^ R := Nat.mul_le_mul_right _ hKp
      omega
    · exact q
  unfold gk
  rw [hdiv]
  simp only [Bool.and_eq_true, decide_eq_true_eq]
  constructor
  · intro hR
    subst hR
    refine ⟨⟨(cnt_0 _).mpr (fun i hi => ?_), hRb⟩, rfl⟩
    have h1 := cnt_full (σ 0) j5.symm i hi
    simp only [Bool.not_eq_true', decide_eq_false_iff_not] at h1
    have h2 := ((j2.2.2 i).2 i h1).2
    simp [h2]
  · rintro ⟨-, h⟩
    exact pow_inj' hcol.1 h
theorem c_bring {σ : Nat → Nat} (W : WF σ) {S : Nat} (hS : S < 128) {h : Hp} (F : FX h) (C : CO h 5 σ) : ∃ h', P_X4_bringAll 14 5 (I S) h = some (if gk σ S then I 1 else I 0, h') ∧ FxA [17] h h' := by
  have h7 := W.2.2.1
  obtain ⟨h1, a1, a2, a3⟩ := c_bring_L2 W (I S) (fun h3 => lt (0 : Int32) fun v6 => lt (0 : Int32) fun v7 => P_X4_bringAll_L29 FU 14 5 (I S) v6 v7 h3) 13 0 FU h (by omega) (by have := FU_eq; omega) F (fun j hj => by omega)
  have J : KI σ S 0 0 h1 := by
    refine ⟨fun _ _ => 0, 1, fun i hi => by rw [a3 (i + 1) (by omega)]; exact (congrArg I enc_zf).symm, ⟨fun _ _ _ => rfl, fun _ => Or.inl (fun _ => rfl), fun _ => ⟨fun _ => by show 0 < σ 1; have := W.col; omega, fun _ z => absurd rfl z⟩⟩, NS_0, rfl, ?_⟩
    exact ((cnt_0 _).mpr (fun i _ => rfl)).symm
  obtain ⟨h', R', r1, r2, r3⟩ := c_bring_L29 W hS (σ 2) 0 0 FU h1 (by omega) (by have := FU_eq; omega) (a2.fx F) (CO_fx a2 (by simp) C) J
  have hg := KI_gk W r3
  refine ⟨h', ?_, a2.tr r2⟩
  unfold P_X4_bringAll
  rw [lt_eq]
  refine Eq.trans a1 ?_
  rw [lt_eq, lt_eq]
  refine Eq.trans r1 ?_
  by_cases hR : R' = σ 0
  · rw [if_pos hR, if_pos (hg.mp hR)]
  · rw [if_neg hR, if_neg (fun z => hR (hg.mpr z))]
-- ===== the search =====
def pb (S : Nat) : Nat := cnt (fun q => S.testBit q) 12
def kb (g : Nat → Bool) : Nat → Nat → Option Nat → Option Nat
  | 0, _, b => b
  | k + 1, S, none => kb g k (S + 1) (if g S then some S else none)
  | k + 1, S, some x => kb g k (S + 1) (if pb x ≤ pb S then some x else if g S then some S else some x)
def kans (what : Nat) : Option Nat → Int32
  | none => -I 9
  | some x => if what = 1 then I x else I (pb x)
theorem oi_s {x : Nat} : oi (some x) = I x := rfl
theorem oi_n : oi none = -I 9 := rfl
theorem pb_le (S : Nat) : pb S ≤ 12 := cnt_le _ 12
theorem c_keys_L {σ : Nat → Nat} (W : WF σ) {w : Nat} (hw : w < 2) : ∀ (k S n : Nat) (b : Option Nat) (h : Hp), S + k = 2 ^ σ 2 → k < n → (∀ x, b = some x → x < 128) → FX h → CO h 5 σ →
    ∃ h', P_X5_keys_L20 n 0 (I w) (oi b) (I S) h = some (kans w (kb (gk σ) k S b), h') ∧ FxA [17] h h' := by
  have h7 := W.2.2.1
  have p7 : 2 ^ σ 2 ≤ 128 := by
    have := Nat.pow_le_pow_right (n := 2) (by decide) h7
    exact Nat.le_trans this (by decide)
  have e1 : (1 <<< σ 2) = 2 ^ σ 2 := Nat.one_shiftLeft _
  intro k
  induction k with
  | zero =>
    intro S n b h hS hn hb F C
    cases n with
    | zero => omega
    | succ n =>
      have k2 := C.1.2.2.1
      have : S = 2 ^ σ 2 := by omega
      subst this
      refine ⟨h, ?_, FxA.rf⟩
      cases b with
      | none =>
        unfold P_X5_keys_L20 kb kans oi
        simp (disch := first | assumption | exact FX_setI ‹_› | exact FX_setI (FX_setI ‹_›) | exact FX_setI (FX_setI (FX_setI ‹_›)) | exact FX_setI (FX_setI (FX_setI (FX_setI ‹_›))) | omega) only [gr_0_0, gr_0_1, gr_0_2, gr_0_3, gr_0_4, gr_0_5, gr_0_6, gr_0_7, gr_1_0, gr_1_5, gr_1_7, gr_5_3, gr_5_9, gr_8_3, gr_8_9, gr_11_3, gr_11_9, gr_14_0, gr_14_1, gr_14_2, gr_18_0, gr_18_1, gr_18_2, gr_24_0, gr_24_1, gr_24_2, gr_24_3, gr_24_5, gr_24_6, gr_24_10, gr_24_11, gr_24_12, gr_24_15, al_2, al_3, al_4, al_7, al_10, al_13, al_15, al_16, al_17, al_19, al_20, al_21, al_22, al_23, al_25, al_26, al_27, al_28, al_29, al_30, al_31, al_32, al_33, al_34, as_2, as_3, as_4, as_7, as_10, as_13, as_15, as_16, as_17, as_19, as_20, as_21, as_22, as_23, as_25, as_26, as_27, as_28, as_29, as_30, as_31, as_32, as_33, as_34, gi_0, gi_1, gi_5, gi_8, gi_11, gi_14, gi_18, gi_24, pi_0, pi_1, pi_5, pi_8, pi_11, pi_14, pi_18, pi_24, rc_0, rc_1, rc_5, rc_8, rc_11, rc_14, rc_18, rc_24, ln_2, ln_3, ln_4, ln_7, ln_10, ln_13, ln_15, ln_16, ln_17, ln_19, ln_20, ln_21, ln_22, ln_23, ln_25, ln_26, ln_27, ln_28, ln_29, ln_30, ln_31, ln_32, ln_33, ln_34, ln_6, ln_9, ln_12, ciN, cvN, lt_eq, nn_none, nn_some, setI_1, setI_at, setI_R, upd2_at, I_add, I_addn, Int32.neg_neg, I_mul, I_ltI, I_leI, I_eqI, I_nat, if_true, if_false, reduceIte, reduceIteN, I_difn, bz_0, bz_1, nz_I, I_rem, I_div, I_sub, l4095, l32, l63, l0, l1, l2, l3, l4, l5, l6, l7, l8, l9, l10, l11, l12, l16, l24, l28, l31, l40, l48, l57, l64, l68, l78, l79, l99, l255, l2000, l2187, l1000000000, k2, I_shl, e1]
      | some x =>
        have hx := hb x rfl
        have hbc := c_bitCount (h := h) (a := x) (by omega)
        have hpc : pop x 12 = pb x := pop_cnt x 12
        have hne := I_ne9 (b := x) (by omega)
        rw [hpc] at hbc
        unfold P_X5_keys_L20 kb kans oi
        by_cases h1 : w = 1
        · subst h1
          simp (disch := first | assumption | exact FX_setI ‹_› | exact FX_setI (FX_setI ‹_›) | exact FX_setI (FX_setI (FX_setI ‹_›)) | exact FX_setI (FX_setI (FX_setI (FX_setI ‹_›))) | omega) only [gr_0_0, gr_0_1, gr_0_2, gr_0_3, gr_0_4, gr_0_5, gr_0_6, gr_0_7, gr_1_0, gr_1_5, gr_1_7, gr_5_3, gr_5_9, gr_8_3, gr_8_9, gr_11_3, gr_11_9, gr_14_0, gr_14_1, gr_14_2, gr_18_0, gr_18_1, gr_18_2, gr_24_0, gr_24_1, gr_24_2, gr_24_3, gr_24_5, gr_24_6, gr_24_10, gr_24_11, gr_24_12, gr_24_15, al_2, al_3, al_4, al_7, al_10, al_13, al_15, al_16, al_17, al_19, al_20, al_21, al_22, al_23, al_25, al_26, al_27, al_28, al_29, al_30, al_31, al_32, al_33, al_34, as_2, as_3, as_4, as_7, as_10, as_13, as_15, as_16, as_17, as_19, as_20, as_21, as_22, as_23, as_25, as_26, as_27, as_28, as_29, as_30, as_31, as_32, as_33, as_34, gi_0, gi_1, gi_5, gi_8, gi_11, gi_14, gi_18, gi_24, pi_0, pi_1, pi_5, pi_8, pi_11, pi_14, pi_18, pi_24, rc_0, rc_1, rc_5, rc_8, rc_11, rc_14, rc_18, rc_24, ln_2, ln_3, ln_4, ln_7, ln_10, ln_13, ln_15, ln_16, ln_17, ln_19, ln_20, ln_21, ln_22, ln_23, ln_25, ln_26, ln_27, ln_28, ln_29, ln_30, ln_31, ln_32, ln_33, ln_34, ln_6, ln_9, ln_12, ciN, cvN, lt_eq, nn_none, nn_some, setI_1, setI_at, setI_R, upd2_at, I_add, I_addn, Int32.neg_neg, I_mul, I_ltI, I_leI, I_eqI, I_nat, if_true, if_false, reduceIte, reduceIteN, I_difn, bz_0, bz_1, nz_I, I_rem, I_div, I_sub, l4095, l32, l63, l0, l1, l2, l3, l4, l5, l6, l7, l8, l9, l10, l11, l12, l16, l24, l28, l31, l40, l48, l57, l64, l68, l78, l79, l99, l255, l2000, l2187, l1000000000, k2, I_shl, e1, hne]
        · simp (disch := first | assumption | exact FX_setI ‹_› | exact FX_setI (FX_setI ‹_›) | exact FX_setI (FX_setI (FX_setI ‹_›)) | exact FX_setI (FX_setI (FX_setI (FX_setI ‹_›))) | omega) only [gr_0_0, gr_0_1, gr_0_2, gr_0_3, gr_0_4, gr_0_5, gr_0_6, gr_0_7, gr_1_0, gr_1_5, gr_1_7, gr_5_3, gr_5_9, gr_8_3, gr_8_9, gr_11_3, gr_11_9, gr_14_0, gr_14_1, gr_14_2, gr_18_0, gr_18_1, gr_18_2, gr_24_0, gr_24_1, gr_24_2, gr_24_3, gr_24_5, gr_24_6, gr_24_10, gr_24_11, gr_24_12, gr_24_15, al_2, al_3, al_4, al_7, al_10, al_13, al_15, al_16, al_17, al_19, al_20, al_21, al_22, al_23, al_25, al_26, al_27, al_28, al_29, al_30, al_31, al_32, al_33, al_34, as_2, as_3, as_4, as_7, as_10, as_13, as_15, as_16, as_17, as_19, as_20, as_21, as_22, as_23, as_25, as_26, as_27, as_28, as_29, as_30, as_31, as_32, as_33, as_34, gi_0, gi_1, gi_5, gi_8, gi_11, gi_14, gi_18, gi_24, pi_0, pi_1, pi_5, pi_8, pi_11, pi_14, pi_18, pi_24, rc_0, rc_1, rc_5, rc_8, rc_11, rc_14, rc_18, rc_24, ln_2, ln_3, ln_4, ln_7, ln_10, ln_13, ln_15, ln_16, ln_17, ln_19, ln_20, ln_21, ln_22, ln_23, ln_25, ln_26, ln_27, ln_28, ln_29, ln_30, ln_31, ln_32, ln_33, ln_34, ln_6, ln_9, ln_12, ciN, cvN, lt_eq, nn_none, nn_some, setI_1, setI_at, setI_R, upd2_at, I_add, I_addn, Int32.neg_neg, I_mul, I_ltI, I_leI, I_eqI, I_nat, if_true, if_false, reduceIte, reduceIteN, I_difn, bz_0, bz_1, nz_I, I_rem, I_div, I_sub, l4095, l32, l63, l0, l1, l2, l3, l4, l5, l6, l7, l8, l9, l10, l11, l12, l16, l24, l28, l31, l40, l48, l57, l64, l68, l78, l79, l99, l255, l2000, l2187, l1000000000, k2, I_shl, e1, hne, hbc]
  | succ k ih =>
    intro S n b h hS hn hb F C
    cases n with
    | zero => omega
    | succ n =>
      have k2 := C.1.2.2.1
      have hS1 : S < 128 := by omega
      obtain ⟨h1, a1, a2⟩ := c_bring W hS1 F C
      have F1 := a2.fx F
      have C1 := CO_fx a2 (by simp) C
      cases b with
      | none =>
        obtain ⟨h', r1, r2⟩ := ih (S + 1) n (if gk σ S then some S else none) h1 (by omega) (by omega) (fun x hx => by split at hx <;> simp at hx; omega) F1 C1
        refine ⟨h', ?_, a2.tr r2⟩
        unfold P_X5_keys_L20 kb
        cases hg : gk σ S
        · rw [hg] at a1 r1
          simp only [Bool.false_eq_true, if_false] at a1 r1 ⊢
          simp only [oi_s, oi_n] at r1 ⊢
          simp (disch := first | assumption | exact FX_setI ‹_› | exact FX_setI (FX_setI ‹_›) | exact FX_setI (FX_setI (FX_setI ‹_›)) | exact FX_setI (FX_setI (FX_setI (FX_setI ‹_›))) | omega) only [gr_0_0, gr_0_1, gr_0_2, gr_0_3, gr_0_4, gr_0_5, gr_0_6, gr_0_7, gr_1_0, gr_1_5, gr_1_7, gr_5_3, gr_5_9, gr_8_3, gr_8_9, gr_11_3, gr_11_9, gr_14_0, gr_14_1, gr_14_2, gr_18_0, gr_18_1, gr_18_2, gr_24_0, gr_24_1, gr_24_2, gr_24_3, gr_24_5, gr_24_6, gr_24_10, gr_24_11, gr_24_12, gr_24_15, al_2, al_3, al_4, al_7, al_10, al_13, al_15, al_16, al_17, al_19, al_20, al_21, al_22, al_23, al_25, al_26, al_27, al_28, al_29, al_30, al_31, al_32, al_33, al_34, as_2, as_3, as_4, as_7, as_10, as_13, as_15, as_16, as_17, as_19, as_20, as_21, as_22, as_23, as_25, as_26, as_27, as_28, as_29, as_30, as_31, as_32, as_33, as_34, gi_0, gi_1, gi_5, gi_8, gi_11, gi_14, gi_18, gi_24, pi_0, pi_1, pi_5, pi_8, pi_11, pi_14, pi_18, pi_24, rc_0, rc_1, rc_5, rc_8, rc_11, rc_14, rc_18, rc_24, ln_2, ln_3, ln_4, ln_7, ln_10, ln_13, ln_15, ln_16, ln_17, ln_19, ln_20, ln_21, ln_22, ln_23, ln_25, ln_26, ln_27, ln_28, ln_29, ln_30, ln_31, ln_32, ln_33, ln_34, ln_6, ln_9, ln_12, ciN, cvN, lt_eq, nn_none, nn_some, setI_1, setI_at, setI_R, upd2_at, I_add, I_addn, Int32.neg_neg, I_mul, I_ltI, I_leI, I_eqI, I_nat, if_true, if_false, reduceIte, reduceIteN, I_difn, bz_0, bz_1, nz_I, I_rem, I_div, I_sub, l4095, l32, l63, l0, l1, l2, l3, l4, l5, l6, l7, l8, l9, l10, l11, l12, l16, l24, l28, l31, l40, l48, l57, l64, l68, l78, l79, l99, l255, l2000, l2187, l1000000000, k2, I_shl, e1, a1]
          exact r1
        · rw [hg] at a1 r1
          simp only [if_true] at a1 r1 ⊢
          simp only [oi_s, oi_n] at r1 ⊢
          simp (disch := first | assumption | exact FX_setI ‹_› | exact FX_setI (FX_setI ‹_›) | exact FX_setI (FX_setI (FX_setI ‹_›)) | exact FX_setI (FX_setI (FX_setI (FX_setI ‹_›))) | omega) only [gr_0_0, gr_0_1, gr_0_2, gr_0_3, gr_0_4, gr_0_5, gr_0_6, gr_0_7, gr_1_0, gr_1_5, gr_1_7, gr_5_3, gr_5_9, gr_8_3, gr_8_9, gr_11_3, gr_11_9, gr_14_0, gr_14_1, gr_14_2, gr_18_0, gr_18_1, gr_18_2, gr_24_0, gr_24_1, gr_24_2, gr_24_3, gr_24_5, gr_24_6, gr_24_10, gr_24_11, gr_24_12, gr_24_15, al_2, al_3, al_4, al_7, al_10, al_13, al_15, al_16, al_17, al_19, al_20, al_21, al_22, al_23, al_25, al_26, al_27, al_28, al_29, al_30, al_31, al_32, al_33, al_34, as_2, as_3, as_4, as_7, as_10, as_13, as_15, as_16, as_17, as_19, as_20, as_21, as_22, as_23, as_25, as_26, as_27, as_28, as_29, as_30, as_31, as_32, as_33, as_34, gi_0, gi_1, gi_5, gi_8, gi_11, gi_14, gi_18, gi_24, pi_0, pi_1, pi_5, pi_8, pi_11, pi_14, pi_18, pi_24, rc_0, rc_1, rc_5, rc_8, rc_11, rc_14, rc_18, rc_24, ln_2, ln_3, ln_4, ln_7, ln_10, ln_13, ln_15, ln_16, ln_17, ln_19, ln_20, ln_21, ln_22, ln_23, ln_25, ln_26, ln_27, ln_28, ln_29, ln_30, ln_31, ln_32, ln_33, ln_34, ln_6, ln_9, ln_12, ciN, cvN, lt_eq, nn_none, nn_some, setI_1, setI_at, setI_R, upd2_at, I_add, I_addn, Int32.neg_neg, I_mul, I_ltI, I_leI, I_eqI, I_nat, if_true, if_false, reduceIte, reduceIteN, I_difn, bz_0, bz_1, nz_I, I_rem, I_div, I_sub, l4095, l32, l63, l0, l1, l2, l3, l4, l5, l6, l7, l8, l9, l10, l11, l12, l16, l24, l28, l31, l40, l48, l57, l64, l68, l78, l79, l99, l255, l2000, l2187, l1000000000, k2, I_shl, e1, a1]
          exact r1
      | some x =>
        have hx := hb x rfl
        have hbc := c_bitCount (h := h) (a := x) (by omega)
        have hpc : pop x 12 = pb x := pop_cnt x 12
        have hbs := c_bitCount (h := h) (a := S) (by omega)
        have hps : pop S 12 = pb S := pop_cnt S 12
        have hne := I_ne9 (b := x) (by omega)
        have q1 := pb_le x
        have q2 := pb_le S
        rw [hpc] at hbc
        rw [hps] at hbs
        by_cases hle : pb x ≤ pb S
        · obtain ⟨h', r1, r2⟩ := ih (S + 1) n (some x) h (by omega) (by omega) hb F C
          refine ⟨h', ?_, r2⟩
          unfold P_X5_keys_L20 kb
          rw [if_pos hle]
          simp only [oi_s, oi_n] at r1 ⊢
          simp (disch := first | assumption | exact FX_setI ‹_› | exact FX_setI (FX_setI ‹_›) | exact FX_setI (FX_setI (FX_setI ‹_›)) | exact FX_setI (FX_setI (FX_setI (FX_setI ‹_›))) | omega) only [gr_0_0, gr_0_1, gr_0_2, gr_0_3, gr_0_4, gr_0_5, gr_0_6, gr_0_7, gr_1_0, gr_1_5, gr_1_7, gr_5_3, gr_5_9, gr_8_3, gr_8_9, gr_11_3, gr_11_9, gr_14_0, gr_14_1, gr_14_2, gr_18_0, gr_18_1, gr_18_2, gr_24_0, gr_24_1, gr_24_2, gr_24_3, gr_24_5, gr_24_6, gr_24_10, gr_24_11, gr_24_12, gr_24_15, al_2, al_3, al_4, al_7, al_10, al_13, al_15, al_16, al_17, al_19, al_20, al_21, al_22, al_23, al_25, al_26, al_27, al_28, al_29, al_30, al_31, al_32, al_33, al_34, as_2, as_3, as_4, as_7, as_10, as_13, as_15, as_16, as_17, as_19, as_20, as_21, as_22, as_23, as_25, as_26, as_27, as_28, as_29, as_30, as_31, as_32, as_33, as_34, gi_0, gi_1, gi_5, gi_8, gi_11, gi_14, gi_18, gi_24, pi_0, pi_1, pi_5, pi_8, pi_11, pi_14, pi_18, pi_24, rc_0, rc_1, rc_5, rc_8, rc_11, rc_14, rc_18, rc_24, ln_2, ln_3, ln_4, ln_7, ln_10, ln_13, ln_15, ln_16, ln_17, ln_19, ln_20, ln_21, ln_22, ln_23, ln_25, ln_26, ln_27, ln_28, ln_29, ln_30, ln_31, ln_32, ln_33, ln_34, ln_6, ln_9, ln_12, ciN, cvN, lt_eq, nn_none, nn_some, setI_1, setI_at, setI_R, upd2_at, I_add, I_addn, Int32.neg_neg, I_mul, I_ltI, I_leI, I_eqI, I_nat, if_true, if_false, reduceIte, reduceIteN, I_difn, bz_0, bz_1, nz_I, I_rem, I_div, I_sub, l4095, l32, l63, l0, l1, l2, l3, l4, l5, l6, l7, l8, l9, l10, l11, l12, l16, l24, l28, l31, l40, l48, l57, l64, l68, l78, l79, l99, l255, l2000, l2187, l1000000000, k2, I_shl, e1, hne, hbc, hbs]
          exact r1
        · obtain ⟨h', r1, r2⟩ := ih (S + 1) n (if gk σ S then some S else some x) h1 (by omega) (by omega) (fun y hy => by split at hy <;> simp at hy <;> omega) F1 C1
          refine ⟨h', ?_, a2.tr r2⟩
          unfold P_X5_keys_L20 kb
          rw [if_neg hle]
          cases hg : gk σ S
          · rw [hg] at a1 r1
            simp only [Bool.false_eq_true, if_false] at a1 r1 ⊢
            simp only [oi_s, oi_n] at r1 ⊢
            simp (disch := first | assumption | exact FX_setI ‹_› | exact FX_setI (FX_setI ‹_›) | exact FX_setI (FX_setI (FX_setI ‹_›)) | exact FX_setI (FX_setI (FX_setI (FX_setI ‹_›))) | omega) only [gr_0_0, gr_0_1, gr_0_2, gr_0_3, gr_0_4, gr_0_5, gr_0_6, gr_0_7, gr_1_0, gr_1_5, gr_1_7, gr_5_3, gr_5_9, gr_8_3, gr_8_9, gr_11_3, gr_11_9, gr_14_0, gr_14_1, gr_14_2, gr_18_0, gr_18_1, gr_18_2, gr_24_0, gr_24_1, gr_24_2, gr_24_3, gr_24_5, gr_24_6, gr_24_10, gr_24_11, gr_24_12, gr_24_15, al_2, al_3, al_4, al_7, al_10, al_13, al_15, al_16, al_17, al_19, al_20, al_21, al_22, al_23, al_25, al_26, al_27, al_28, al_29, al_30, al_31, al_32, al_33, al_34, as_2, as_3, as_4, as_7, as_10, as_13, as_15, as_16, as_17, as_19, as_20, as_21, as_22, as_23, as_25, as_26, as_27, as_28, as_29, as_30, as_31, as_32, as_33, as_34, gi_0, gi_1, gi_5, gi_8, gi_11, gi_14, gi_18, gi_24, pi_0, pi_1, pi_5, pi_8, pi_11, pi_14, pi_18, pi_24, rc_0, rc_1, rc_5, rc_8, rc_11, rc_14, rc_18, rc_24, ln_2, ln_3, ln_4, ln_7, ln_10, ln_13, ln_15, ln_16, ln_17, ln_19, ln_20, ln_21, ln_22, ln_23, ln_25, ln_26, ln_27, ln_28, ln_29, ln_30, ln_31, ln_32, ln_33, ln_34, ln_6, ln_9, ln_12, ciN, cvN, lt_eq, nn_none, nn_some, setI_1, setI_at, setI_R, upd2_at, I_add, I_addn, Int32.neg_neg, I_mul, I_ltI, I_leI, I_eqI, I_nat, if_true, if_false, reduceIte, reduceIteN, I_difn, bz_0, bz_1, nz_I, I_rem, I_div, I_sub, l4095, l32, l63, l0, l1, l2, l3, l4, l5, l6, l7, l8, l9, l10, l11, l12, l16, l24, l28, l31, l40, l48, l57, l64, l68, l78, l79, l99, l255, l2000, l2187, l1000000000, k2, I_shl, e1, hne, hbc, hbs, a1]
            exact r1
          · rw [hg] at a1 r1
            simp only [if_true] at a1 r1 ⊢
            simp only [oi_s, oi_n] at r1 ⊢
            simp (disch := first | assumption | exact FX_setI ‹_› | exact FX_setI (FX_setI ‹_›) | exact FX_setI (FX_setI (FX_setI ‹_›)) | exact FX_setI (FX_setI (FX_setI (FX_setI ‹_›))) | omega) only [gr_0_0, gr_0_1, gr_0_2, gr_0_3, gr_0_4, gr_0_5, gr_0_6, gr_0_7, gr_1_0, gr_1_5, gr_1_7, gr_5_3, gr_5_9, gr_8_3, gr_8_9, gr_11_3, gr_11_9, gr_14_0, gr_14_1, gr_14_2, gr_18_0, gr_18_1, gr_18_2, gr_24_0, gr_24_1, gr_24_2, gr_24_3, gr_24_5, gr_24_6, gr_24_10, gr_24_11, gr_24_12, gr_24_15, al_2, al_3, al_4, al_7, al_10, al_13, al_15, al_16, al_17, al_19, al_20, al_21, al_22, al_23, al_25, al_26, al_27, al_28, al_29, al_30, al_31, al_32, al_33, al_34, as_2, as_3, as_4, as_7, as_10, as_13, as_15, as_16, as_17, as_19, as_20, as_21, as_22, as_23, as_25, as_26, as_27, as_28, as_29, as_30, as_31, as_32, as_33, as_34, gi_0, gi_1, gi_5, gi_8, gi_11, gi_14, gi_18, gi_24, pi_0, pi_1, pi_5, pi_8, pi_11, pi_14, pi_18, pi_24, rc_0, rc_1, rc_5, rc_8, rc_11, rc_14, rc_18, rc_24, ln_2, ln_3, ln_4, ln_7, ln_10, ln_13, ln_15, ln_16, ln_17, ln_19, ln_20, ln_21, ln_22, ln_23, ln_25, ln_26, ln_27, ln_28, ln_29, ln_30, ln_31, ln_32, ln_33, ln_34, ln_6, ln_9, ln_12, ciN, cvN, lt_eq, nn_none, nn_some, setI_1, setI_at, setI_R, upd2_at, I_add, I_addn, Int32.neg_neg, I_mul, I_ltI, I_leI, I_eqI, I_nat, if_true, if_false, reduceIte, reduceIteN, I_difn, bz_0, bz_1, nz_I, I_rem, I_div, I_sub, l4095, l32, l63, l0, l1, l2, l3, l4, l5, l6, l7, l8, l9, l10, l11, l12, l16, l24, l28, l31, l40, l48, l57, l64, l68, l78, l79, l99, l255, l2000, l2187, l1000000000, k2, I_shl, e1, hne, hbc, hbs, a1]
            exact r1
-- ===== the model's =====
theorem m_bits_L {h : Hp} : ∀ (k r acc n : Nat), r < 2 ^ k → k ≤ 12 → k < n → P_X6_bits_L4 n (I acc) (I r) h = some (I (acc + cnt (fun q => r.testBit q) k), h) := by
  intro k
  induction k with
  | zero =>
    intro r acc n hr hk hn
    cases n with
    | zero => omega
    | succ n =>
      have : r = 0 := by omega
      subst this
      unfold P_X6_bits_L4
      simp (disch := first | assumption | exact FX_setI ‹_› | exact FX_setI (FX_setI ‹_›) | exact FX_setI (FX_setI (FX_setI ‹_›)) | exact FX_setI (FX_setI (FX_setI (FX_setI ‹_›))) | omega) only [gr_0_0, gr_0_1, gr_0_2, gr_0_3, gr_0_4, gr_0_5, gr_0_6, gr_0_7, gr_1_0, gr_1_5, gr_1_7, gr_5_3, gr_5_9, gr_8_3, gr_8_9, gr_11_3, gr_11_9, gr_14_0, gr_14_1, gr_14_2, gr_18_0, gr_18_1, gr_18_2, gr_24_0, gr_24_1, gr_24_2, gr_24_3, gr_24_5, gr_24_6, gr_24_10, gr_24_11, gr_24_12, gr_24_15, al_2, al_3, al_4, al_7, al_10, al_13, al_15, al_16, al_17, al_19, al_20, al_21, al_22, al_23, al_25, al_26, al_27, al_28, al_29, al_30, al_31, al_32, al_33, al_34, as_2, as_3, as_4, as_7, as_10, as_13, as_15, as_16, as_17, as_19, as_20, as_21, as_22, as_23, as_25, as_26, as_27, as_28, as_29, as_30, as_31, as_32, as_33, as_34, gi_0, gi_1, gi_5, gi_8, gi_11, gi_14, gi_18, gi_24, pi_0, pi_1, pi_5, pi_8, pi_11, pi_14, pi_18, pi_24, rc_0, rc_1, rc_5, rc_8, rc_11, rc_14, rc_18, rc_24, ln_2, ln_3, ln_4, ln_7, ln_10, ln_13, ln_15, ln_16, ln_17, ln_19, ln_20, ln_21, ln_22, ln_23, ln_25, ln_26, ln_27, ln_28, ln_29, ln_30, ln_31, ln_32, ln_33, ln_34, ln_6, ln_9, ln_12, ciN, cvN, lt_eq, nn_none, nn_some, setI_1, setI_at, setI_R, upd2_at, I_add, I_addn, Int32.neg_neg, I_mul, I_ltI, I_leI, I_eqI, I_nat, if_true, if_false, reduceIte, reduceIteN, I_difn, bz_0, bz_1, nz_I, I_rem, I_div, I_sub, l4095, l32, l63, l0, l1, l2, l3, l4, l5, l6, l7, l8, l9, l10, l11, l12, l16, l24, l28, l31, l40, l48, l57, l64, l68, l78, l79, l99, l255, l2000, l2187, l1000000000]
      rfl
  | succ k ih =>
    intro r acc n hr hk hn
    cases n with
    | zero => omega
    | succ n =>
      have hrb : r < 4096 := Nat.lt_of_lt_of_le hr (Nat.pow_le_pow_right (n := 2) (by decide) hk)
      by_cases h0 : r = 0
      · subst h0
        have : cnt (fun q => (0 : Nat).testBit q) (k + 1) = 0 := (cnt_0 _).mpr (fun i _ => Nat.zero_testBit i)
        rw [this]
        unfold P_X6_bits_L4
        simp (disch := first | assumption | exact FX_setI ‹_› | exact FX_setI (FX_setI ‹_›) | exact FX_setI (FX_setI (FX_setI ‹_›)) | exact FX_setI (FX_setI (FX_setI (FX_setI ‹_›))) | omega) only [gr_0_0, gr_0_1, gr_0_2, gr_0_3, gr_0_4, gr_0_5, gr_0_6, gr_0_7, gr_1_0, gr_1_5, gr_1_7, gr_5_3, gr_5_9, gr_8_3, gr_8_9, gr_11_3, gr_11_9, gr_14_0, gr_14_1, gr_14_2, gr_18_0, gr_18_1, gr_18_2, gr_24_0, gr_24_1, gr_24_2, gr_24_3, gr_24_5, gr_24_6, gr_24_10, gr_24_11, gr_24_12, gr_24_15, al_2, al_3, al_4, al_7, al_10, al_13, al_15, al_16, al_17, al_19, al_20, al_21, al_22, al_23, al_25, al_26, al_27, al_28, al_29, al_30, al_31, al_32, al_33, al_34, as_2, as_3, as_4, as_7, as_10, as_13, as_15, as_16, as_17, as_19, as_20, as_21, as_22, as_23, as_25, as_26, as_27, as_28, as_29, as_30, as_31, as_32, as_33, as_34, gi_0, gi_1, gi_5, gi_8, gi_11, gi_14, gi_18, gi_24, pi_0, pi_1, pi_5, pi_8, pi_11, pi_14, pi_18, pi_24, rc_0, rc_1, rc_5, rc_8, rc_11, rc_14, rc_18, rc_24, ln_2, ln_3, ln_4, ln_7, ln_10, ln_13, ln_15, ln_16, ln_17, ln_19, ln_20, ln_21, ln_22, ln_23, ln_25, ln_26, ln_27, ln_28, ln_29, ln_30, ln_31, ln_32, ln_33, ln_34, ln_6, ln_9, ln_12, ciN, cvN, lt_eq, nn_none, nn_some, setI_1, setI_at, setI_R, upd2_at, I_add, I_addn, Int32.neg_neg, I_mul, I_ltI, I_leI, I_eqI, I_nat, if_true, if_false, reduceIte, reduceIteN, I_difn, bz_0, bz_1, nz_I, I_rem, I_div, I_sub, l4095, l32, l63, l0, l1, l2, l3, l4, l5, l6, l7, l8, l9, l10, l11, l12, l16, l24, l28, l31, l40, l48, l57, l64, l68, l78, l79, l99, l255, l2000, l2187, l1000000000]
        rfl
      · have hb1 : r &&& 1 < 2 := by rw [Nat.and_one_is_mod]; omega
        have hsh : r >>> 1 < 2 ^ k := by
          rw [Nat.shiftRight_eq_div_pow, Nat.pow_one]
          rw [Nat.pow_succ] at hr
          omega
        have h11 := ih (r >>> 1) (acc + (r &&& 1)) n hsh (by omega) (by omega)
        have e : cnt (fun q => r.testBit q) (k + 1) = (r &&& 1) + cnt (fun q => (r >>> 1).testBit q) k := by
          rw [Nat.add_comm k 1, cnt_app]
          congr 1
          · have hsb := shr_bit r 0
            rw [Nat.shiftRight_zero] at hsb
            show 0 + (if r.testBit 0 = true then 1 else 0) = _
            cases hb : r.testBit 0
            · have : ¬ r &&& 1 = 1 := by rw [hsb, hb]; decide
              have h0 : r &&& 1 = 0 := by omega
              rw [h0]
              rfl
            · have : r &&& 1 = 1 := by rw [hsb]; exact hb
              rw [this]
              rfl
          · apply cnt_congr
            intro i _
            rw [Nat.testBit_shiftRight]
        rw [e, ← Nat.add_assoc]
        unfold P_X6_bits_L4
        simp (disch := first | assumption | exact FX_setI ‹_› | exact FX_setI (FX_setI ‹_›) | exact FX_setI (FX_setI (FX_setI ‹_›)) | exact FX_setI (FX_setI (FX_setI (FX_setI ‹_›))) | omega) only [gr_0_0, gr_0_1, gr_0_2, gr_0_3, gr_0_4, gr_0_5, gr_0_6, gr_0_7, gr_1_0, gr_1_5, gr_1_7, gr_5_3, gr_5_9, gr_8_3, gr_8_9, gr_11_3, gr_11_9, gr_14_0, gr_14_1, gr_14_2, gr_18_0, gr_18_1, gr_18_2, gr_24_0, gr_24_1, gr_24_2, gr_24_3, gr_24_5, gr_24_6, gr_24_10, gr_24_11, gr_24_12, gr_24_15, al_2, al_3, al_4, al_7, al_10, al_13, al_15, al_16, al_17, al_19, al_20, al_21, al_22, al_23, al_25, al_26, al_27, al_28, al_29, al_30, al_31, al_32, al_33, al_34, as_2, as_3, as_4, as_7, as_10, as_13, as_15, as_16, as_17, as_19, as_20, as_21, as_22, as_23, as_25, as_26, as_27, as_28, as_29, as_30, as_31, as_32, as_33, as_34, gi_0, gi_1, gi_5, gi_8, gi_11, gi_14, gi_18, gi_24, pi_0, pi_1, pi_5, pi_8, pi_11, pi_14, pi_18, pi_24, rc_0, rc_1, rc_5, rc_8, rc_11, rc_14, rc_18, rc_24, ln_2, ln_3, ln_4, ln_7, ln_10, ln_13, ln_15, ln_16, ln_17, ln_19, ln_20, ln_21, ln_22, ln_23, ln_25, ln_26, ln_27, ln_28, ln_29, ln_30, ln_31, ln_32, ln_33, ln_34, ln_6, ln_9, ln_12, ciN, cvN, lt_eq, nn_none, nn_some, setI_1, setI_at, setI_R, upd2_at, I_add, I_addn, Int32.neg_neg, I_mul, I_ltI, I_leI, I_eqI, I_nat, if_true, if_false, reduceIte, reduceIteN, I_difn, bz_0, bz_1, nz_I, I_rem, I_div, I_sub, l4095, l32, l63, l0, l1, l2, l3, l4, l5, l6, l7, l8, l9, l10, l11, l12, l16, l24, l28, l31, l40, l48, l57, l64, l68, l78, l79, l99, l255, l2000, l2187, l1000000000, I_and, I_shr]
        exact h11
theorem m_bits {h : Hp} {S : Nat} (hS : S < 4096) : P_X6_bits (I S) h = some (I (pb S), h) := by
  have h1 := m_bits_L (h := h) 12 S 0 FU (by omega) (Nat.le_refl 12) (by have := FU_eq; omega)
  rw [Nat.zero_add] at h1
  unfold P_X6_bits
  exact h1
theorem pb_cut {σ : Nat → Nat} {S : Nat} (W : WF σ) (hS : S < 2 ^ σ 2) : cnt (fun q => S.testBit q) (σ 2) = pb S := by
  have h7 := W.2.2.1
  unfold pb
  obtain ⟨d, hd⟩ : ∃ d, 12 = σ 2 + d := ⟨12 - σ 2, by omega⟩
  rw [hd]
  exact (cnt_more _ d (fun i h1 _ => Nat.testBit_lt_two_pow (Nat.lt_of_lt_of_le hS (Nat.pow_le_pow_right (by decide) h1)))).symm
theorem kb_none {g : Nat → Bool} (hg : ∀ S, g S = false) : ∀ k S, kb g k S none = none
  | 0, _ => rfl
  | k + 1, S => by
    show kb g k (S + 1) (if g S then some S else none) = none
    rw [hg S]
    exact kb_none hg k (S + 1)
theorem m_keySet_L {σ : Nat → Nat} (W : WF σ) (h0 : cnt (fun i => decide (σ (28 + i) = 1)) (σ 0) = 0) : ∀ (k S n : Nat) (b : Option Nat) (h : Hp), S + k = 2 ^ σ 2 → k < n → (∀ x, b = some x → x < 128) → MS h σ →
    ∃ h', P_X6_keySet_L15 n 24 (oi b) (I S) h = some (oi (kb (gk σ) k S b), h') ∧ FxA [26, 33] h h' ∧ MS h' σ := by
  have h7 := W.2.2.1
  have hn0 := W.1
  have hcol := W.col
  have p7 : 2 ^ σ 2 ≤ 128 := by
    have := Nat.pow_le_pow_right (n := 2) (by decide) h7
    exact Nat.le_trans this (by decide)
  have p0 : 1 ≤ 2 ^ σ 2 := Nat.pos_of_ne_zero (fun z => by have := Nat.pow_eq_zero.mp z; omega)
  have pn := pow_bd hcol.2 hn0.2
  intro k
  induction k with
  | zero =>
    intro S n b h hS hn hb M
    cases n with
    | zero => omega
    | succ n =>
      have : S = 2 ^ σ 2 := by omega
      subst this
      have hall := m_allPeople W (MSc M)
      have F := M.1
      refine ⟨h, ?_, FxA.rf, M⟩
      unfold P_X6_keySet_L15 kb
      simp (disch := first | assumption | exact FX_setI ‹_› | exact FX_setI (FX_setI ‹_›) | exact FX_setI (FX_setI (FX_setI ‹_›)) | exact FX_setI (FX_setI (FX_setI (FX_setI ‹_›))) | omega) only [gr_0_0, gr_0_1, gr_0_2, gr_0_3, gr_0_4, gr_0_5, gr_0_6, gr_0_7, gr_1_0, gr_1_5, gr_1_7, gr_5_3, gr_5_9, gr_8_3, gr_8_9, gr_11_3, gr_11_9, gr_14_0, gr_14_1, gr_14_2, gr_18_0, gr_18_1, gr_18_2, gr_24_0, gr_24_1, gr_24_2, gr_24_3, gr_24_5, gr_24_6, gr_24_10, gr_24_11, gr_24_12, gr_24_15, al_2, al_3, al_4, al_7, al_10, al_13, al_15, al_16, al_17, al_19, al_20, al_21, al_22, al_23, al_25, al_26, al_27, al_28, al_29, al_30, al_31, al_32, al_33, al_34, as_2, as_3, as_4, as_7, as_10, as_13, as_15, as_16, as_17, as_19, as_20, as_21, as_22, as_23, as_25, as_26, as_27, as_28, as_29, as_30, as_31, as_32, as_33, as_34, gi_0, gi_1, gi_5, gi_8, gi_11, gi_14, gi_18, gi_24, pi_0, pi_1, pi_5, pi_8, pi_11, pi_14, pi_18, pi_24, rc_0, rc_1, rc_5, rc_8, rc_11, rc_14, rc_18, rc_24, ln_2, ln_3, ln_4, ln_7, ln_10, ln_13, ln_15, ln_16, ln_17, ln_19, ln_20, ln_21, ln_22, ln_23, ln_25, ln_26, ln_27, ln_28, ln_29, ln_30, ln_31, ln_32, ln_33, ln_34, ln_6, ln_9, ln_12, ciN, cvN, lt_eq, nn_none, nn_some, setI_1, setI_at, setI_R, upd2_at, I_add, I_addn, Int32.neg_neg, I_mul, I_ltI, I_leI, I_eqI, I_nat, if_true, if_false, reduceIte, reduceIteN, I_difn, bz_0, bz_1, nz_I, I_rem, I_div, I_sub, l4095, l32, l63, l0, l1, l2, l3, l4, l5, l6, l7, l8, l9, l10, l11, l12, l16, l24, l28, l31, l40, l48, l57, l64, l68, l78, l79, l99, l255, l2000, l2187, l1000000000, hall]
  | succ k ih =>
    intro S n b h hS hn hb M
    cases n with
    | zero => omega
    | succ n =>
      have hall := m_allPeople W (MSc M)
      have hS1 : S < 128 := by omega
      have hbs := fun (h : Hp) => m_bits (h := h) (S := S) (by omega)
      have hcut := pb_cut W (show S < 2 ^ σ 2 by omega)
      have hpl := pb_le S
      have pb2 := pow_bd hcol.2 (show pb S ≤ 12 from hpl)
      have hpw := fun (h : Hp) (M : MS h σ) => m_power W (MSc M) (e := pb S) (by omega)
      have hpn := fun (h : Hp) (M : MS h σ) => m_power W (MSc M) (e := σ 0) (by omega)
      obtain ⟨h1, a1, a2, a3⟩ := m_nothingBy W M hS1
      obtain ⟨F, hs⟩ := id M
      obtain ⟨F1, hs1⟩ := id a3
      have hK : 0 < cnt (nbp σ S) (σ 1 ^ σ 2) := cnt_pos _ (by have := W.rows; omega) (nbp0 W S)
      have hKle := cnt_le (nbp σ S) (σ 1 ^ σ 2)
      have hrw := W.rows
      have hq : σ 1 ^ pb S / cnt (nbp σ S) (σ 1 ^ σ 2) < 2147483648 := Nat.lt_of_le_of_lt (Nat.div_le_self _ _) (by omega)
      have hgk : gk σ S = (decide (σ 0 ≤ pb S) && decide (σ 1 ^ pb S / cnt (nbp σ S) (σ 1 ^ σ 2) = σ 1 ^ σ 0)) := by
        unfold gk
        rw [hcut, h0]
        simp
      have hw1 := hpw h M
      have hn1 := hpn h1 a3
      -- S is taken, or not
      have tk : ∀ (b' : Option Nat) (h2 : Hp), MS h2 σ → (∀ x, b' = some x → x < 128) → ∃ h', P_X6_keySet_L15 n 24 (oi b') (I (S + 1)) h2 = some (oi (kb (gk σ) k (S + 1) b'), h') ∧ FxA [26, 33] h2 h' ∧ MS h' σ := fun b' h2 M2 hb' => ih (S + 1) n b' h2 (by omega) (by omega) hb' M2
      cases b with
      | none =>
        have m9 : -I 9 < I 0 := by decide
        by_cases hge : σ 0 ≤ pb S
        · by_cases heq : σ 1 ^ pb S / cnt (nbp σ S) (σ 1 ^ σ 2) = σ 1 ^ σ 0
          · have hg : gk σ S = true := by rw [hgk]; simp [hge, heq]
            obtain ⟨h', r1, r2, r3⟩ := tk (some S) h1 a3 (fun x hx => by injection hx with hx; omega)
            refine ⟨h', ?_, a2.tr r2, r3⟩
            unfold P_X6_keySet_L15 kb
            rw [hg, if_pos rfl]
            simp only [oi_s, oi_n] at r1 ⊢
            rw [← r1]
            simp (disch := first | assumption | exact FX_setI ‹_› | exact FX_setI (FX_setI ‹_›) | exact FX_setI (FX_setI (FX_setI ‹_›)) | exact FX_setI (FX_setI (FX_setI (FX_setI ‹_›))) | omega) only [gr_0_0, gr_0_1, gr_0_2, gr_0_3, gr_0_4, gr_0_5, gr_0_6, gr_0_7, gr_1_0, gr_1_5, gr_1_7, gr_5_3, gr_5_9, gr_8_3, gr_8_9, gr_11_3, gr_11_9, gr_14_0, gr_14_1, gr_14_2, gr_18_0, gr_18_1, gr_18_2, gr_24_0, gr_24_1, gr_24_2, gr_24_3, gr_24_5, gr_24_6, gr_24_10, gr_24_11, gr_24_12, gr_24_15, al_2, al_3, al_4, al_7, al_10, al_13, al_15, al_16, al_17, al_19, al_20, al_21, al_22, al_23, al_25, al_26, al_27, al_28, al_29, al_30, al_31, al_32, al_33, al_34, as_2, as_3, as_4, as_7, as_10, as_13, as_15, as_16, as_17, as_19, as_20, as_21, as_22, as_23, as_25, as_26, as_27, as_28, as_29, as_30, as_31, as_32, as_33, as_34, gi_0, gi_1, gi_5, gi_8, gi_11, gi_14, gi_18, gi_24, pi_0, pi_1, pi_5, pi_8, pi_11, pi_14, pi_18, pi_24, rc_0, rc_1, rc_5, rc_8, rc_11, rc_14, rc_18, rc_24, ln_2, ln_3, ln_4, ln_7, ln_10, ln_13, ln_15, ln_16, ln_17, ln_19, ln_20, ln_21, ln_22, ln_23, ln_25, ln_26, ln_27, ln_28, ln_29, ln_30, ln_31, ln_32, ln_33, ln_34, ln_6, ln_9, ln_12, ciN, cvN, lt_eq, nn_none, nn_some, setI_1, setI_at, setI_R, upd2_at, I_add, I_addn, Int32.neg_neg, I_mul, I_ltI, I_leI, I_eqI, I_nat, if_true, if_false, reduceIte, reduceIteN, I_difn, bz_0, bz_1, nz_I, I_rem, I_div, I_sub, l4095, l32, l63, l0, l1, l2, l3, l4, l5, l6, l7, l8, l9, l10, l11, l12, l16, l24, l28, l31, l40, l48, l57, l64, l68, l78, l79, l99, l255, l2000, l2187, l1000000000, m9, hall, hbs, hs, hw1, a1, hs1, hn1, heq]
          · have hg : gk σ S = false := by rw [hgk]; simp [hge, heq]
            obtain ⟨h', r1, r2, r3⟩ := tk none h1 a3 (fun x hx => by cases hx)
            refine ⟨h', ?_, a2.tr r2, r3⟩
            unfold P_X6_keySet_L15 kb
            rw [hg, if_neg (by decide)]
            simp only [oi_s, oi_n] at r1 ⊢
            rw [← r1]
            simp (disch := first | assumption | exact FX_setI ‹_› | exact FX_setI (FX_setI ‹_›) | exact FX_setI (FX_setI (FX_setI ‹_›)) | exact FX_setI (FX_setI (FX_setI (FX_setI ‹_›))) | omega) only [gr_0_0, gr_0_1, gr_0_2, gr_0_3, gr_0_4, gr_0_5, gr_0_6, gr_0_7, gr_1_0, gr_1_5, gr_1_7, gr_5_3, gr_5_9, gr_8_3, gr_8_9, gr_11_3, gr_11_9, gr_14_0, gr_14_1, gr_14_2, gr_18_0, gr_18_1, gr_18_2, gr_24_0, gr_24_1, gr_24_2, gr_24_3, gr_24_5, gr_24_6, gr_24_10, gr_24_11, gr_24_12, gr_24_15, al_2, al_3, al_4, al_7, al_10, al_13, al_15, al_16, al_17, al_19, al_20, al_21, al_22, al_23, al_25, al_26, al_27, al_28, al_29, al_30, al_31, al_32, al_33, al_34, as_2, as_3, as_4, as_7, as_10, as_13, as_15, as_16, as_17, as_19, as_20, as_21, as_22, as_23, as_25, as_26, as_27, as_28, as_29, as_30, as_31, as_32, as_33, as_34, gi_0, gi_1, gi_5, gi_8, gi_11, gi_14, gi_18, gi_24, pi_0, pi_1, pi_5, pi_8, pi_11, pi_14, pi_18, pi_24, rc_0, rc_1, rc_5, rc_8, rc_11, rc_14, rc_18, rc_24, ln_2, ln_3, ln_4, ln_7, ln_10, ln_13, ln_15, ln_16, ln_17, ln_19, ln_20, ln_21, ln_22, ln_23, ln_25, ln_26, ln_27, ln_28, ln_29, ln_30, ln_31, ln_32, ln_33, ln_34, ln_6, ln_9, ln_12, ciN, cvN, lt_eq, nn_none, nn_some, setI_1, setI_at, setI_R, upd2_at, I_add, I_addn, Int32.neg_neg, I_mul, I_ltI, I_leI, I_eqI, I_nat, if_true, if_false, reduceIte, reduceIteN, I_difn, bz_0, bz_1, nz_I, I_rem, I_div, I_sub, l4095, l32, l63, l0, l1, l2, l3, l4, l5, l6, l7, l8, l9, l10, l11, l12, l16, l24, l28, l31, l40, l48, l57, l64, l68, l78, l79, l99, l255, l2000, l2187, l1000000000, m9, hall, hbs, hs, hw1, a1, hs1, hn1]
            try rw [if_neg heq]
        · have hg : gk σ S = false := by rw [hgk]; simp [hge]
          obtain ⟨h', r1, r2, r3⟩ := tk none h M (fun x hx => by cases hx)
          refine ⟨h', ?_, r2, r3⟩
          unfold P_X6_keySet_L15 kb
          rw [hg, if_neg (by decide)]
          simp only [oi_s, oi_n] at r1 ⊢
          rw [← r1]
          simp (disch := first | assumption | exact FX_setI ‹_› | exact FX_setI (FX_setI ‹_›) | exact FX_setI (FX_setI (FX_setI ‹_›)) | exact FX_setI (FX_setI (FX_setI (FX_setI ‹_›))) | omega) only [gr_0_0, gr_0_1, gr_0_2, gr_0_3, gr_0_4, gr_0_5, gr_0_6, gr_0_7, gr_1_0, gr_1_5, gr_1_7, gr_5_3, gr_5_9, gr_8_3, gr_8_9, gr_11_3, gr_11_9, gr_14_0, gr_14_1, gr_14_2, gr_18_0, gr_18_1, gr_18_2, gr_24_0, gr_24_1, gr_24_2, gr_24_3, gr_24_5, gr_24_6, gr_24_10, gr_24_11, gr_24_12, gr_24_15, al_2, al_3, al_4, al_7, al_10, al_13, al_15, al_16, al_17, al_19, al_20, al_21, al_22, al_23, al_25, al_26, al_27, al_28, al_29, al_30, al_31, al_32, al_33, al_34, as_2, as_3, as_4, as_7, as_10, as_13, as_15, as_16, as_17, as_19, as_20, as_21, as_22, as_23, as_25, as_26, as_27, as_28, as_29, as_30, as_31, as_32, as_33, as_34, gi_0, gi_1, gi_5, gi_8, gi_11, gi_14, gi_18, gi_24, pi_0, pi_1, pi_5, pi_8, pi_11, pi_14, pi_18, pi_24, rc_0, rc_1, rc_5, rc_8, rc_11, rc_14, rc_18, rc_24, ln_2, ln_3, ln_4, ln_7, ln_10, ln_13, ln_15, ln_16, ln_17, ln_19, ln_20, ln_21, ln_22, ln_23, ln_25, ln_26, ln_27, ln_28, ln_29, ln_30, ln_31, ln_32, ln_33, ln_34, ln_6, ln_9, ln_12, ciN, cvN, lt_eq, nn_none, nn_some, setI_1, setI_at, setI_R, upd2_at, I_add, I_addn, Int32.neg_neg, I_mul, I_ltI, I_leI, I_eqI, I_nat, if_true, if_false, reduceIte, reduceIteN, I_difn, bz_0, bz_1, nz_I, I_rem, I_div, I_sub, l4095, l32, l63, l0, l1, l2, l3, l4, l5, l6, l7, l8, l9, l10, l11, l12, l16, l24, l28, l31, l40, l48, l57, l64, l68, l78, l79, l99, l255, l2000, l2187, l1000000000, m9, hall, hbs, hs]
      | some x =>
        have hx := hb x rfl
        have hbx := fun (h : Hp) => m_bits (h := h) (S := x) (by omega)
        have q1 := pb_le x
        by_cases hle : pb x ≤ pb S
        · obtain ⟨h', r1, r2, r3⟩ := tk (some x) h M hb
          refine ⟨h', ?_, r2, r3⟩
          unfold P_X6_keySet_L15 kb
          rw [if_pos hle]
          simp only [oi_s, oi_n] at r1 ⊢
          rw [← r1]
          simp (disch := first | assumption | exact FX_setI ‹_› | exact FX_setI (FX_setI ‹_›) | exact FX_setI (FX_setI (FX_setI ‹_›)) | exact FX_setI (FX_setI (FX_setI (FX_setI ‹_›))) | omega) only [gr_0_0, gr_0_1, gr_0_2, gr_0_3, gr_0_4, gr_0_5, gr_0_6, gr_0_7, gr_1_0, gr_1_5, gr_1_7, gr_5_3, gr_5_9, gr_8_3, gr_8_9, gr_11_3, gr_11_9, gr_14_0, gr_14_1, gr_14_2, gr_18_0, gr_18_1, gr_18_2, gr_24_0, gr_24_1, gr_24_2, gr_24_3, gr_24_5, gr_24_6, gr_24_10, gr_24_11, gr_24_12, gr_24_15, al_2, al_3, al_4, al_7, al_10, al_13, al_15, al_16, al_17, al_19, al_20, al_21, al_22, al_23, al_25, al_26, al_27, al_28, al_29, al_30, al_31, al_32, al_33, al_34, as_2, as_3, as_4, as_7, as_10, as_13, as_15, as_16, as_17, as_19, as_20, as_21, as_22, as_23, as_25, as_26, as_27, as_28, as_29, as_30, as_31, as_32, as_33, as_34, gi_0, gi_1, gi_5, gi_8, gi_11, gi_14, gi_18, gi_24, pi_0, pi_1, pi_5, pi_8, pi_11, pi_14, pi_18, pi_24, rc_0, rc_1, rc_5, rc_8, rc_11, rc_14, rc_18, rc_24, ln_2, ln_3, ln_4, ln_7, ln_10, ln_13, ln_15, ln_16, ln_17, ln_19, ln_20, ln_21, ln_22, ln_23, ln_25, ln_26, ln_27, ln_28, ln_29, ln_30, ln_31, ln_32, ln_33, ln_34, ln_6, ln_9, ln_12, ciN, cvN, lt_eq, nn_none, nn_some, setI_1, setI_at, setI_R, upd2_at, I_add, I_addn, Int32.neg_neg, I_mul, I_ltI, I_leI, I_eqI, I_nat, if_true, if_false, reduceIte, reduceIteN, I_difn, bz_0, bz_1, nz_I, I_rem, I_div, I_sub, l4095, l32, l63, l0, l1, l2, l3, l4, l5, l6, l7, l8, l9, l10, l11, l12, l16, l24, l28, l31, l40, l48, l57, l64, l68, l78, l79, l99, l255, l2000, l2187, l1000000000, hall, hbs, hbx, hs]
        · by_cases hge : σ 0 ≤ pb S
          · by_cases heq : σ 1 ^ pb S / cnt (nbp σ S) (σ 1 ^ σ 2) = σ 1 ^ σ 0
            · have hg : gk σ S = true := by rw [hgk]; simp [hge, heq]
              obtain ⟨h', r1, r2, r3⟩ := tk (some S) h1 a3 (fun x hx => by injection hx with hx; omega)
              refine ⟨h', ?_, a2.tr r2, r3⟩
              unfold P_X6_keySet_L15 kb
              rw [if_neg hle, hg, if_pos rfl]
              simp only [oi_s, oi_n] at r1 ⊢
              rw [← r1]
              simp (disch := first | assumption | exact FX_setI ‹_› | exact FX_setI (FX_setI ‹_›) | exact FX_setI (FX_setI (FX_setI ‹_›)) | exact FX_setI (FX_setI (FX_setI (FX_setI ‹_›))) | omega) only [gr_0_0, gr_0_1, gr_0_2, gr_0_3, gr_0_4, gr_0_5, gr_0_6, gr_0_7, gr_1_0, gr_1_5, gr_1_7, gr_5_3, gr_5_9, gr_8_3, gr_8_9, gr_11_3, gr_11_9, gr_14_0, gr_14_1, gr_14_2, gr_18_0, gr_18_1, gr_18_2, gr_24_0, gr_24_1, gr_24_2, gr_24_3, gr_24_5, gr_24_6, gr_24_10, gr_24_11, gr_24_12, gr_24_15, al_2, al_3, al_4, al_7, al_10, al_13, al_15, al_16, al_17, al_19, al_20, al_21, al_22, al_23, al_25, al_26, al_27, al_28, al_29, al_30, al_31, al_32, al_33, al_34, as_2, as_3, as_4, as_7, as_10, as_13, as_15, as_16, as_17, as_19, as_20, as_21, as_22, as_23, as_25, as_26, as_27, as_28, as_29, as_30, as_31, as_32, as_33, as_34, gi_0, gi_1, gi_5, gi_8, gi_11, gi_14, gi_18, gi_24, pi_0, pi_1, pi_5, pi_8, pi_11, pi_14, pi_18, pi_24, rc_0, rc_1, rc_5, rc_8, rc_11, rc_14, rc_18, rc_24, ln_2, ln_3, ln_4, ln_7, ln_10, ln_13, ln_15, ln_16, ln_17, ln_19, ln_20, ln_21, ln_22, ln_23, ln_25, ln_26, ln_27, ln_28, ln_29, ln_30, ln_31, ln_32, ln_33, ln_34, ln_6, ln_9, ln_12, ciN, cvN, lt_eq, nn_none, nn_some, setI_1, setI_at, setI_R, upd2_at, I_add, I_addn, Int32.neg_neg, I_mul, I_ltI, I_leI, I_eqI, I_nat, if_true, if_false, reduceIte, reduceIteN, I_difn, bz_0, bz_1, nz_I, I_rem, I_div, I_sub, l4095, l32, l63, l0, l1, l2, l3, l4, l5, l6, l7, l8, l9, l10, l11, l12, l16, l24, l28, l31, l40, l48, l57, l64, l68, l78, l79, l99, l255, l2000, l2187, l1000000000, hall, hbs, hbx, hs, hw1, a1, hs1, hn1, heq]
            · have hg : gk σ S = false := by rw [hgk]; simp [hge, heq]
              obtain ⟨h', r1, r2, r3⟩ := tk (some x) h1 a3 hb
              refine ⟨h', ?_, a2.tr r2, r3⟩
              unfold P_X6_keySet_L15 kb
              rw [if_neg hle, hg, if_neg (by decide)]
              simp only [oi_s, oi_n] at r1 ⊢
              rw [← r1]
              simp (disch := first | assumption | exact FX_setI ‹_› | exact FX_setI (FX_setI ‹_›) | exact FX_setI (FX_setI (FX_setI ‹_›)) | exact FX_setI (FX_setI (FX_setI (FX_setI ‹_›))) | omega) only [gr_0_0, gr_0_1, gr_0_2, gr_0_3, gr_0_4, gr_0_5, gr_0_6, gr_0_7, gr_1_0, gr_1_5, gr_1_7, gr_5_3, gr_5_9, gr_8_3, gr_8_9, gr_11_3, gr_11_9, gr_14_0, gr_14_1, gr_14_2, gr_18_0, gr_18_1, gr_18_2, gr_24_0, gr_24_1, gr_24_2, gr_24_3, gr_24_5, gr_24_6, gr_24_10, gr_24_11, gr_24_12, gr_24_15, al_2, al_3, al_4, al_7, al_10, al_13, al_15, al_16, al_17, al_19, al_20, al_21, al_22, al_23, al_25, al_26, al_27, al_28, al_29, al_30, al_31, al_32, al_33, al_34, as_2, as_3, as_4, as_7, as_10, as_13, as_15, as_16, as_17, as_19, as_20, as_21, as_22, as_23, as_25, as_26, as_27, as_28, as_29, as_30, as_31, as_32, as_33, as_34, gi_0, gi_1, gi_5, gi_8, gi_11, gi_14, gi_18, gi_24, pi_0, pi_1, pi_5, pi_8, pi_11, pi_14, pi_18, pi_24, rc_0, rc_1, rc_5, rc_8, rc_11, rc_14, rc_18, rc_24, ln_2, ln_3, ln_4, ln_7, ln_10, ln_13, ln_15, ln_16, ln_17, ln_19, ln_20, ln_21, ln_22, ln_23, ln_25, ln_26, ln_27, ln_28, ln_29, ln_30, ln_31, ln_32, ln_33, ln_34, ln_6, ln_9, ln_12, ciN, cvN, lt_eq, nn_none, nn_some, setI_1, setI_at, setI_R, upd2_at, I_add, I_addn, Int32.neg_neg, I_mul, I_ltI, I_leI, I_eqI, I_nat, if_true, if_false, reduceIte, reduceIteN, I_difn, bz_0, bz_1, nz_I, I_rem, I_div, I_sub, l4095, l32, l63, l0, l1, l2, l3, l4, l5, l6, l7, l8, l9, l10, l11, l12, l16, l24, l28, l31, l40, l48, l57, l64, l68, l78, l79, l99, l255, l2000, l2187, l1000000000, hall, hbs, hbx, hs, hw1, a1, hs1, hn1]
              try rw [if_neg heq]
          · have hg : gk σ S = false := by rw [hgk]; simp [hge]
            obtain ⟨h', r1, r2, r3⟩ := tk (some x) h M hb
            refine ⟨h', ?_, r2, r3⟩
            unfold P_X6_keySet_L15 kb
            rw [if_neg hle, hg, if_neg (by decide)]
            simp only [oi_s, oi_n] at r1 ⊢
            rw [← r1]
            simp (disch := first | assumption | exact FX_setI ‹_› | exact FX_setI (FX_setI ‹_›) | exact FX_setI (FX_setI (FX_setI ‹_›)) | exact FX_setI (FX_setI (FX_setI (FX_setI ‹_›))) | omega) only [gr_0_0, gr_0_1, gr_0_2, gr_0_3, gr_0_4, gr_0_5, gr_0_6, gr_0_7, gr_1_0, gr_1_5, gr_1_7, gr_5_3, gr_5_9, gr_8_3, gr_8_9, gr_11_3, gr_11_9, gr_14_0, gr_14_1, gr_14_2, gr_18_0, gr_18_1, gr_18_2, gr_24_0, gr_24_1, gr_24_2, gr_24_3, gr_24_5, gr_24_6, gr_24_10, gr_24_11, gr_24_12, gr_24_15, al_2, al_3, al_4, al_7, al_10, al_13, al_15, al_16, al_17, al_19, al_20, al_21, al_22, al_23, al_25, al_26, al_27, al_28, al_29, al_30, al_31, al_32, al_33, al_34, as_2, as_3, as_4, as_7, as_10, as_13, as_15, as_16, as_17, as_19, as_20, as_21, as_22, as_23, as_25, as_26, as_27, as_28, as_29, as_30, as_31, as_32, as_33, as_34, gi_0, gi_1, gi_5, gi_8, gi_11, gi_14, gi_18, gi_24, pi_0, pi_1, pi_5, pi_8, pi_11, pi_14, pi_18, pi_24, rc_0, rc_1, rc_5, rc_8, rc_11, rc_14, rc_18, rc_24, ln_2, ln_3, ln_4, ln_7, ln_10, ln_13, ln_15, ln_16, ln_17, ln_19, ln_20, ln_21, ln_22, ln_23, ln_25, ln_26, ln_27, ln_28, ln_29, ln_30, ln_31, ln_32, ln_33, ln_34, ln_6, ln_9, ln_12, ciN, cvN, lt_eq, nn_none, nn_some, setI_1, setI_at, setI_R, upd2_at, I_add, I_addn, Int32.neg_neg, I_mul, I_ltI, I_leI, I_eqI, I_nat, if_true, if_false, reduceIte, reduceIteN, I_difn, bz_0, bz_1, nz_I, I_rem, I_div, I_sub, l4095, l32, l63, l0, l1, l2, l3, l4, l5, l6, l7, l8, l9, l10, l11, l12, l16, l24, l28, l31, l40, l48, l57, l64, l68, l78, l79, l99, l255, l2000, l2187, l1000000000, hall, hbs, hbx, hs]
theorem kb_lt {g : Nat → Bool} : ∀ k S b, S + k ≤ 128 → (∀ x, b = some x → x < 128) → ∀ x, kb g k S b = some x → x < 128
  | 0, _, b, _, hb, x, hx => hb x hx
  | k + 1, S, none, hS, hb, x, hx => kb_lt k (S + 1) _ (by omega) (fun y hy => by split at hy <;> simp at hy; omega) x hx
  | k + 1, S, some z, hS, hb, x, hx => kb_lt k (S + 1) _ (by omega) (fun y hy => by
      have := hb z rfl
      split at hy
      · simp at hy; omega
      · split at hy <;> simp at hy <;> omega) x hx
theorem m_keySet {σ : Nat → Nat} {h : Hp} (W : WF σ) (M : MS h σ) : ∃ h', P_X6_keySet 24 h = some (oi (kb (gk σ) (2 ^ σ 2) 0 none), h') ∧ FxA [26, 33] h h' ∧ MS h' σ := by
  have hn0 := W.1
  have hst := m_stuck W M
  have F := M.1
  have hle := cnt_le (fun i => decide (σ (28 + i) = 1)) (σ 0)
  by_cases h0 : cnt (fun i => decide (σ (28 + i) = 1)) (σ 0) = 0
  · have h7 := W.2.2.1
    have p7 : 2 ^ σ 2 ≤ 128 := by
      have := Nat.pow_le_pow_right (n := 2) (by decide) h7
      exact Nat.le_trans this (by decide)
    obtain ⟨h', r1, r2, r3⟩ := m_keySet_L W h0 (2 ^ σ 2) 0 FU none h (by omega) (by have := FU_eq; omega) (fun x hx => by cases hx) M
    refine ⟨h', ?_, r2, r3⟩
    rw [h0] at hst
    unfold P_X6_keySet
    simp (disch := first | assumption | exact FX_setI ‹_› | exact FX_setI (FX_setI ‹_›) | exact FX_setI (FX_setI (FX_setI ‹_›)) | exact FX_setI (FX_setI (FX_setI (FX_setI ‹_›))) | omega) only [gr_0_0, gr_0_1, gr_0_2, gr_0_3, gr_0_4, gr_0_5, gr_0_6, gr_0_7, gr_1_0, gr_1_5, gr_1_7, gr_5_3, gr_5_9, gr_8_3, gr_8_9, gr_11_3, gr_11_9, gr_14_0, gr_14_1, gr_14_2, gr_18_0, gr_18_1, gr_18_2, gr_24_0, gr_24_1, gr_24_2, gr_24_3, gr_24_5, gr_24_6, gr_24_10, gr_24_11, gr_24_12, gr_24_15, al_2, al_3, al_4, al_7, al_10, al_13, al_15, al_16, al_17, al_19, al_20, al_21, al_22, al_23, al_25, al_26, al_27, al_28, al_29, al_30, al_31, al_32, al_33, al_34, as_2, as_3, as_4, as_7, as_10, as_13, as_15, as_16, as_17, as_19, as_20, as_21, as_22, as_23, as_25, as_26, as_27, as_28, as_29, as_30, as_31, as_32, as_33, as_34, gi_0, gi_1, gi_5, gi_8, gi_11, gi_14, gi_18, gi_24, pi_0, pi_1, pi_5, pi_8, pi_11, pi_14, pi_18, pi_24, rc_0, rc_1, rc_5, rc_8, rc_11, rc_14, rc_18, rc_24, ln_2, ln_3, ln_4, ln_7, ln_10, ln_13, ln_15, ln_16, ln_17, ln_19, ln_20, ln_21, ln_22, ln_23, ln_25, ln_26, ln_27, ln_28, ln_29, ln_30, ln_31, ln_32, ln_33, ln_34, ln_6, ln_9, ln_12, ciN, cvN, lt_eq, nn_none, nn_some, setI_1, setI_at, setI_R, upd2_at, I_add, I_addn, Int32.neg_neg, I_mul, I_ltI, I_leI, I_eqI, I_nat, if_true, if_false, reduceIte, reduceIteN, I_difn, bz_0, bz_1, nz_I, I_rem, I_div, I_sub, l4095, l32, l63, l0, l1, l2, l3, l4, l5, l6, l7, l8, l9, l10, l11, l12, l16, l24, l28, l31, l40, l48, l57, l64, l68, l78, l79, l99, l255, l2000, l2187, l1000000000, hst]
    exact r1
  · refine ⟨h, ?_, FxA.rf, M⟩
    rw [kb_none (fun S => by unfold gk; simp [h0])]
    unfold P_X6_keySet
    simp (disch := first | assumption | exact FX_setI ‹_› | exact FX_setI (FX_setI ‹_›) | exact FX_setI (FX_setI (FX_setI ‹_›)) | exact FX_setI (FX_setI (FX_setI (FX_setI ‹_›))) | omega) only [gr_0_0, gr_0_1, gr_0_2, gr_0_3, gr_0_4, gr_0_5, gr_0_6, gr_0_7, gr_1_0, gr_1_5, gr_1_7, gr_5_3, gr_5_9, gr_8_3, gr_8_9, gr_11_3, gr_11_9, gr_14_0, gr_14_1, gr_14_2, gr_18_0, gr_18_1, gr_18_2, gr_24_0, gr_24_1, gr_24_2, gr_24_3, gr_24_5, gr_24_6, gr_24_10, gr_24_11, gr_24_12, gr_24_15, al_2, al_3, al_4, al_7, al_10, al_13, al_15, al_16, al_17, al_19, al_20, al_21, al_22, al_23, al_25, al_26, al_27, al_28, al_29, al_30, al_31, al_32, al_33, al_34, as_2, as_3, as_4, as_7, as_10, as_13, as_15, as_16, as_17, as_19, as_20, as_21, as_22, as_23, as_25, as_26, as_27, as_28, as_29, as_30, as_31, as_32, as_33, as_34, gi_0, gi_1, gi_5, gi_8, gi_11, gi_14, gi_18, gi_24, pi_0, pi_1, pi_5, pi_8, pi_11, pi_14, pi_18, pi_24, rc_0, rc_1, rc_5, rc_8, rc_11, rc_14, rc_18, rc_24, ln_2, ln_3, ln_4, ln_7, ln_10, ln_13, ln_15, ln_16, ln_17, ln_19, ln_20, ln_21, ln_22, ln_23, ln_25, ln_26, ln_27, ln_28, ln_29, ln_30, ln_31, ln_32, ln_33, ln_34, ln_6, ln_9, ln_12, ciN, cvN, lt_eq, nn_none, nn_some, setI_1, setI_at, setI_R, upd2_at, I_add, I_addn, Int32.neg_neg, I_mul, I_ltI, I_leI, I_eqI, I_nat, if_true, if_false, reduceIte, reduceIteN, I_difn, bz_0, bz_1, nz_I, I_rem, I_div, I_sub, l4095, l32, l63, l0, l1, l2, l3, l4, l5, l6, l7, l8, l9, l10, l11, l12, l16, l24, l28, l31, l40, l48, l57, l64, l68, l78, l79, l99, l255, l2000, l2187, l1000000000, hst]
    rfl
theorem s_keys (a : Int32) : Step (P_X5_keys 0 a) (P_X6_keys 24 a) := by
  intro h ⟨σ, im, n, t, ρ, G, C, M⟩
  have W := G.1
  have F := C.1
  have CC := C.2.1
  have h7 := W.2.2.1
  have p7 : 2 ^ σ 2 ≤ 128 := by
    have := Nat.pow_le_pow_right (n := 2) (by decide) h7
    exact Nat.le_trans this (by decide)
  rcases in_cases a (show 2 < 2147483648 by decide) with ⟨w, hw, rfl⟩ | hno
  · obtain ⟨h1, a1, a2⟩ := c_keys_L W hw (2 ^ σ 2) 0 FU none h (by omega) (by have := FU_eq; omega) (fun x hx => by cases hx) F CC
    refine go_ok (Ac := [17]) (Am := [26, 33]) (by simp) (by simp) G C M ⟨kans w (kb (gk σ) (2 ^ σ 2) 0 none), h1, ?_, a2, fun h' M' => ?_⟩
    · rw [oi_n] at a1
      have : w = 0 ∨ w = 1 := by omega
      unfold P_X5_keys
      rcases this with rfl | rfl
      · simp (disch := first | assumption | exact FX_setI ‹_› | exact FX_setI (FX_setI ‹_›) | exact FX_setI (FX_setI (FX_setI ‹_›)) | exact FX_setI (FX_setI (FX_setI (FX_setI ‹_›))) | omega) only [gr_0_0, gr_0_1, gr_0_2, gr_0_3, gr_0_4, gr_0_5, gr_0_6, gr_0_7, gr_1_0, gr_1_5, gr_1_7, gr_5_3, gr_5_9, gr_8_3, gr_8_9, gr_11_3, gr_11_9, gr_14_0, gr_14_1, gr_14_2, gr_18_0, gr_18_1, gr_18_2, gr_24_0, gr_24_1, gr_24_2, gr_24_3, gr_24_5, gr_24_6, gr_24_10, gr_24_11, gr_24_12, gr_24_15, al_2, al_3, al_4, al_7, al_10, al_13, al_15, al_16, al_17, al_19, al_20, al_21, al_22, al_23, al_25, al_26, al_27, al_28, al_29, al_30, al_31, al_32, al_33, al_34, as_2, as_3, as_4, as_7, as_10, as_13, as_15, as_16, as_17, as_19, as_20, as_21, as_22, as_23, as_25, as_26, as_27, as_28, as_29, as_30, as_31, as_32, as_33, as_34, gi_0, gi_1, gi_5, gi_8, gi_11, gi_14, gi_18, gi_24, pi_0, pi_1, pi_5, pi_8, pi_11, pi_14, pi_18, pi_24, rc_0, rc_1, rc_5, rc_8, rc_11, rc_14, rc_18, rc_24, ln_2, ln_3, ln_4, ln_7, ln_10, ln_13, ln_15, ln_16, ln_17, ln_19, ln_20, ln_21, ln_22, ln_23, ln_25, ln_26, ln_27, ln_28, ln_29, ln_30, ln_31, ln_32, ln_33, ln_34, ln_6, ln_9, ln_12, ciN, cvN, lt_eq, nn_none, nn_some, setI_1, setI_at, setI_R, upd2_at, I_add, I_addn, Int32.neg_neg, I_mul, I_ltI, I_leI, I_eqI, I_nat, if_true, if_false, reduceIte, reduceIteN, I_difn, bz_0, bz_1, nz_I, I_rem, I_div, I_sub, l4095, l32, l63, l0, l1, l2, l3, l4, l5, l6, l7, l8, l9, l10, l11, l12, l16, l24, l28, l31, l40, l48, l57, l64, l68, l78, l79, l99, l255, l2000, l2187, l1000000000]
        exact a1
      · simp (disch := first | assumption | exact FX_setI ‹_› | exact FX_setI (FX_setI ‹_›) | exact FX_setI (FX_setI (FX_setI ‹_›)) | exact FX_setI (FX_setI (FX_setI (FX_setI ‹_›))) | omega) only [gr_0_0, gr_0_1, gr_0_2, gr_0_3, gr_0_4, gr_0_5, gr_0_6, gr_0_7, gr_1_0, gr_1_5, gr_1_7, gr_5_3, gr_5_9, gr_8_3, gr_8_9, gr_11_3, gr_11_9, gr_14_0, gr_14_1, gr_14_2, gr_18_0, gr_18_1, gr_18_2, gr_24_0, gr_24_1, gr_24_2, gr_24_3, gr_24_5, gr_24_6, gr_24_10, gr_24_11, gr_24_12, gr_24_15, al_2, al_3, al_4, al_7, al_10, al_13, al_15, al_16, al_17, al_19, al_20, al_21, al_22, al_23, al_25, al_26, al_27, al_28, al_29, al_30, al_31, al_32, al_33, al_34, as_2, as_3, as_4, as_7, as_10, as_13, as_15, as_16, as_17, as_19, as_20, as_21, as_22, as_23, as_25, as_26, as_27, as_28, as_29, as_30, as_31, as_32, as_33, as_34, gi_0, gi_1, gi_5, gi_8, gi_11, gi_14, gi_18, gi_24, pi_0, pi_1, pi_5, pi_8, pi_11, pi_14, pi_18, pi_24, rc_0, rc_1, rc_5, rc_8, rc_11, rc_14, rc_18, rc_24, ln_2, ln_3, ln_4, ln_7, ln_10, ln_13, ln_15, ln_16, ln_17, ln_19, ln_20, ln_21, ln_22, ln_23, ln_25, ln_26, ln_27, ln_28, ln_29, ln_30, ln_31, ln_32, ln_33, ln_34, ln_6, ln_9, ln_12, ciN, cvN, lt_eq, nn_none, nn_some, setI_1, setI_at, setI_R, upd2_at, I_add, I_addn, Int32.neg_neg, I_mul, I_ltI, I_leI, I_eqI, I_nat, if_true, if_false, reduceIte, reduceIteN, I_difn, bz_0, bz_1, nz_I, I_rem, I_div, I_sub, l4095, l32, l63, l0, l1, l2, l3, l4, l5, l6, l7, l8, l9, l10, l11, l12, l16, l24, l28, l31, l40, l48, l57, l64, l68, l78, l79, l99, l255, l2000, l2187, l1000000000]
        exact a1
    · obtain ⟨h2, b1, b2, b3⟩ := m_keySet W M'
      have hi := m_isIn (h := h') (a := w) (b := 2) (by omega) (by decide)
      rw [if_pos hw] at hi
      refine ⟨h2, ?_, b2, b3, e24_of b2 (by decide)⟩
      have F' := M'.1
      have F2 := b3.1
      cases hk : kb (gk σ) (2 ^ σ 2) 0 none with
      | none =>
        rw [hk, oi_n] at b1
        unfold P_X6_keys kans
        simp (disch := first | assumption | exact FX_setI ‹_› | exact FX_setI (FX_setI ‹_›) | exact FX_setI (FX_setI (FX_setI ‹_›)) | exact FX_setI (FX_setI (FX_setI (FX_setI ‹_›))) | omega) only [gr_0_0, gr_0_1, gr_0_2, gr_0_3, gr_0_4, gr_0_5, gr_0_6, gr_0_7, gr_1_0, gr_1_5, gr_1_7, gr_5_3, gr_5_9, gr_8_3, gr_8_9, gr_11_3, gr_11_9, gr_14_0, gr_14_1, gr_14_2, gr_18_0, gr_18_1, gr_18_2, gr_24_0, gr_24_1, gr_24_2, gr_24_3, gr_24_5, gr_24_6, gr_24_10, gr_24_11, gr_24_12, gr_24_15, al_2, al_3, al_4, al_7, al_10, al_13, al_15, al_16, al_17, al_19, al_20, al_21, al_22, al_23, al_25, al_26, al_27, al_28, al_29, al_30, al_31, al_32, al_33, al_34, as_2, as_3, as_4, as_7, as_10, as_13, as_15, as_16, as_17, as_19, as_20, as_21, as_22, as_23, as_25, as_26, as_27, as_28, as_29, as_30, as_31, as_32, as_33, as_34, gi_0, gi_1, gi_5, gi_8, gi_11, gi_14, gi_18, gi_24, pi_0, pi_1, pi_5, pi_8, pi_11, pi_14, pi_18, pi_24, rc_0, rc_1, rc_5, rc_8, rc_11, rc_14, rc_18, rc_24, ln_2, ln_3, ln_4, ln_7, ln_10, ln_13, ln_15, ln_16, ln_17, ln_19, ln_20, ln_21, ln_22, ln_23, ln_25, ln_26, ln_27, ln_28, ln_29, ln_30, ln_31, ln_32, ln_33, ln_34, ln_6, ln_9, ln_12, ciN, cvN, lt_eq, nn_none, nn_some, setI_1, setI_at, setI_R, upd2_at, I_add, I_addn, Int32.neg_neg, I_mul, I_ltI, I_leI, I_eqI, I_nat, if_true, if_false, reduceIte, reduceIteN, I_difn, bz_0, bz_1, nz_I, I_rem, I_div, I_sub, l4095, l32, l63, l0, l1, l2, l3, l4, l5, l6, l7, l8, l9, l10, l11, l12, l16, l24, l28, l31, l40, l48, l57, l64, l68, l78, l79, l99, l255, l2000, l2187, l1000000000, hi, b1]
        rw [if_pos (show -I 9 < I 0 by decide)]
      | some x =>
        have hx := kb_lt (2 ^ σ 2) 0 none (by omega) (fun x hx => by cases hx) x hk
        have hbx := m_bits (h := h2) (S := x) (by omega)
        rw [hk, oi_s] at b1
        unfold P_X6_keys kans
        by_cases h1 : w = 1
        · subst h1
          simp (disch := first | assumption | exact FX_setI ‹_› | exact FX_setI (FX_setI ‹_›) | exact FX_setI (FX_setI (FX_setI ‹_›)) | exact FX_setI (FX_setI (FX_setI (FX_setI ‹_›))) | omega) only [gr_0_0, gr_0_1, gr_0_2, gr_0_3, gr_0_4, gr_0_5, gr_0_6, gr_0_7, gr_1_0, gr_1_5, gr_1_7, gr_5_3, gr_5_9, gr_8_3, gr_8_9, gr_11_3, gr_11_9, gr_14_0, gr_14_1, gr_14_2, gr_18_0, gr_18_1, gr_18_2, gr_24_0, gr_24_1, gr_24_2, gr_24_3, gr_24_5, gr_24_6, gr_24_10, gr_24_11, gr_24_12, gr_24_15, al_2, al_3, al_4, al_7, al_10, al_13, al_15, al_16, al_17, al_19, al_20, al_21, al_22, al_23, al_25, al_26, al_27, al_28, al_29, al_30, al_31, al_32, al_33, al_34, as_2, as_3, as_4, as_7, as_10, as_13, as_15, as_16, as_17, as_19, as_20, as_21, as_22, as_23, as_25, as_26, as_27, as_28, as_29, as_30, as_31, as_32, as_33, as_34, gi_0, gi_1, gi_5, gi_8, gi_11, gi_14, gi_18, gi_24, pi_0, pi_1, pi_5, pi_8, pi_11, pi_14, pi_18, pi_24, rc_0, rc_1, rc_5, rc_8, rc_11, rc_14, rc_18, rc_24, ln_2, ln_3, ln_4, ln_7, ln_10, ln_13, ln_15, ln_16, ln_17, ln_19, ln_20, ln_21, ln_22, ln_23, ln_25, ln_26, ln_27, ln_28, ln_29, ln_30, ln_31, ln_32, ln_33, ln_34, ln_6, ln_9, ln_12, ciN, cvN, lt_eq, nn_none, nn_some, setI_1, setI_at, setI_R, upd2_at, I_add, I_addn, Int32.neg_neg, I_mul, I_ltI, I_leI, I_eqI, I_nat, if_true, if_false, reduceIte, reduceIteN, I_difn, bz_0, bz_1, nz_I, I_rem, I_div, I_sub, l4095, l32, l63, l0, l1, l2, l3, l4, l5, l6, l7, l8, l9, l10, l11, l12, l16, l24, l28, l31, l40, l48, l57, l64, l68, l78, l79, l99, l255, l2000, l2187, l1000000000, hi, b1]
        · simp (disch := first | assumption | exact FX_setI ‹_› | exact FX_setI (FX_setI ‹_›) | exact FX_setI (FX_setI (FX_setI ‹_›)) | exact FX_setI (FX_setI (FX_setI (FX_setI ‹_›))) | omega) only [gr_0_0, gr_0_1, gr_0_2, gr_0_3, gr_0_4, gr_0_5, gr_0_6, gr_0_7, gr_1_0, gr_1_5, gr_1_7, gr_5_3, gr_5_9, gr_8_3, gr_8_9, gr_11_3, gr_11_9, gr_14_0, gr_14_1, gr_14_2, gr_18_0, gr_18_1, gr_18_2, gr_24_0, gr_24_1, gr_24_2, gr_24_3, gr_24_5, gr_24_6, gr_24_10, gr_24_11, gr_24_12, gr_24_15, al_2, al_3, al_4, al_7, al_10, al_13, al_15, al_16, al_17, al_19, al_20, al_21, al_22, al_23, al_25, al_26, al_27, al_28, al_29, al_30, al_31, al_32, al_33, al_34, as_2, as_3, as_4, as_7, as_10, as_13, as_15, as_16, as_17, as_19, as_20, as_21, as_22, as_23, as_25, as_26, as_27, as_28, as_29, as_30, as_31, as_32, as_33, as_34, gi_0, gi_1, gi_5, gi_8, gi_11, gi_14, gi_18, gi_24, pi_0, pi_1, pi_5, pi_8, pi_11, pi_14, pi_18, pi_24, rc_0, rc_1, rc_5, rc_8, rc_11, rc_14, rc_18, rc_24, ln_2, ln_3, ln_4, ln_7, ln_10, ln_13, ln_15, ln_16, ln_17, ln_19, ln_20, ln_21, ln_22, ln_23, ln_25, ln_26, ln_27, ln_28, ln_29, ln_30, ln_31, ln_32, ln_33, ln_34, ln_6, ln_9, ln_12, ciN, cvN, lt_eq, nn_none, nn_some, setI_1, setI_at, setI_R, upd2_at, I_add, I_addn, Int32.neg_neg, I_mul, I_ltI, I_leI, I_eqI, I_nat, if_true, if_false, reduceIte, reduceIteN, I_difn, bz_0, bz_1, nz_I, I_rem, I_div, I_sub, l4095, l32, l63, l0, l1, l2, l3, l4, l5, l6, l7, l8, l9, l10, l11, l12, l16, l24, l28, l31, l40, l48, l57, l64, l68, l78, l79, l99, l255, l2000, l2187, l1000000000, hi, b1, hbx, h1]
  · have n0 : ¬ a = I 0 := fun z => by
      rw [z, I_ltI (by decide) (by decide), I_leI (by decide) (by decide)] at hno; omega
    have n1' : ¬ a = I 1 := fun z => by
      rw [z, I_ltI (by decide) (by decide), I_leI (by decide) (by decide)] at hno; omega
    refine ref_ok (i := 2) (by decide) G C M ?_ (fun h' M' => ?_)
    · unfold P_X5_keys
      simp (disch := first | assumption | exact FX_setI ‹_› | exact FX_setI (FX_setI ‹_›) | exact FX_setI (FX_setI (FX_setI ‹_›)) | exact FX_setI (FX_setI (FX_setI (FX_setI ‹_›))) | omega) only [gr_0_0, gr_0_1, gr_0_2, gr_0_3, gr_0_4, gr_0_5, gr_0_6, gr_0_7, gr_1_0, gr_1_5, gr_1_7, gr_5_3, gr_5_9, gr_8_3, gr_8_9, gr_11_3, gr_11_9, gr_14_0, gr_14_1, gr_14_2, gr_18_0, gr_18_1, gr_18_2, gr_24_0, gr_24_1, gr_24_2, gr_24_3, gr_24_5, gr_24_6, gr_24_10, gr_24_11, gr_24_12, gr_24_15, al_2, al_3, al_4, al_7, al_10, al_13, al_15, al_16, al_17, al_19, al_20, al_21, al_22, al_23, al_25, al_26, al_27, al_28, al_29, al_30, al_31, al_32, al_33, al_34, as_2, as_3, as_4, as_7, as_10, as_13, as_15, as_16, as_17, as_19, as_20, as_21, as_22, as_23, as_25, as_26, as_27, as_28, as_29, as_30, as_31, as_32, as_33, as_34, gi_0, gi_1, gi_5, gi_8, gi_11, gi_14, gi_18, gi_24, pi_0, pi_1, pi_5, pi_8, pi_11, pi_14, pi_18, pi_24, rc_0, rc_1, rc_5, rc_8, rc_11, rc_14, rc_18, rc_24, ln_2, ln_3, ln_4, ln_7, ln_10, ln_13, ln_15, ln_16, ln_17, ln_19, ln_20, ln_21, ln_22, ln_23, ln_25, ln_26, ln_27, ln_28, ln_29, ln_30, ln_31, ln_32, ln_33, ln_34, ln_6, ln_9, ln_12, ciN, cvN, lt_eq, nn_none, nn_some, setI_1, setI_at, setI_R, upd2_at, I_add, I_addn, Int32.neg_neg, I_mul, I_ltI, I_leI, I_eqI, I_nat, if_true, if_false, reduceIte, reduceIteN, I_difn, bz_0, bz_1, nz_I, I_rem, I_div, I_sub, l4095, l32, l63, l0, l1, l2, l3, l4, l5, l6, l7, l8, l9, l10, l11, l12, l16, l24, l28, l31, l40, l48, l57, l64, l68, l78, l79, l99, l255, l2000, l2187, l1000000000, n0, n1']
      rw [c_refuse F (show 2 < 7 by decide)]
      rfl
    · have hi := m_isIn_no (h := h') hno
      have F' := M'.1.1
      unfold P_X6_keys
      simp (disch := first | assumption | exact FX_setI ‹_› | exact FX_setI (FX_setI ‹_›) | exact FX_setI (FX_setI (FX_setI ‹_›)) | exact FX_setI (FX_setI (FX_setI (FX_setI ‹_›))) | omega) only [gr_0_0, gr_0_1, gr_0_2, gr_0_3, gr_0_4, gr_0_5, gr_0_6, gr_0_7, gr_1_0, gr_1_5, gr_1_7, gr_5_3, gr_5_9, gr_8_3, gr_8_9, gr_11_3, gr_11_9, gr_14_0, gr_14_1, gr_14_2, gr_18_0, gr_18_1, gr_18_2, gr_24_0, gr_24_1, gr_24_2, gr_24_3, gr_24_5, gr_24_6, gr_24_10, gr_24_11, gr_24_12, gr_24_15, al_2, al_3, al_4, al_7, al_10, al_13, al_15, al_16, al_17, al_19, al_20, al_21, al_22, al_23, al_25, al_26, al_27, al_28, al_29, al_30, al_31, al_32, al_33, al_34, as_2, as_3, as_4, as_7, as_10, as_13, as_15, as_16, as_17, as_19, as_20, as_21, as_22, as_23, as_25, as_26, as_27, as_28, as_29, as_30, as_31, as_32, as_33, as_34, gi_0, gi_1, gi_5, gi_8, gi_11, gi_14, gi_18, gi_24, pi_0, pi_1, pi_5, pi_8, pi_11, pi_14, pi_18, pi_24, rc_0, rc_1, rc_5, rc_8, rc_11, rc_14, rc_18, rc_24, ln_2, ln_3, ln_4, ln_7, ln_10, ln_13, ln_15, ln_16, ln_17, ln_19, ln_20, ln_21, ln_22, ln_23, ln_25, ln_26, ln_27, ln_28, ln_29, ln_30, ln_31, ln_32, ln_33, ln_34, ln_6, ln_9, ln_12, ciN, cvN, lt_eq, nn_none, nn_some, setI_1, setI_at, setI_R, upd2_at, I_add, I_addn, Int32.neg_neg, I_mul, I_ltI, I_leI, I_eqI, I_nat, if_true, if_false, reduceIte, reduceIteN, I_difn, bz_0, bz_1, nz_I, I_rem, I_div, I_sub, l4095, l32, l63, l0, l1, l2, l3, l4, l5, l6, l7, l8, l9, l10, l11, l12, l16, l24, l28, l31, l40, l48, l57, l64, l68, l78, l79, l99, l255, l2000, l2187, l1000000000, hi]
      rw [m_refuse F' (show 2 < 7 by decide)]
      rfl
