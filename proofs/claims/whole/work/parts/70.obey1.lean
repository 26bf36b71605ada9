/-! The class obeys -/
def FO (h h' : Hp) : Prop := h.1 ≤ h'.1 ∧ FX h' ∧ (∀ q, q < h.1 → q ≠ 8 → h'.2.1 q = h.2.1 q) ∧ (∀ q, q < 35 → q ≠ 9 → h'.2.2 q = h.2.2 q)
theorem FO.rf {h : Hp} (F : FX h) : FO h h := ⟨Nat.le_refl _, F, fun _ _ _ => rfl, fun _ _ _ => rfl⟩
theorem FO.fxa {h h' : Hp} (F : FX h) (a : FxA [8] h h') : FO h h' := ⟨by rw [a.1]; exact Nat.le_refl _, a.fx F, fun q _ hq => a.2.2 q (by simpa using hq), fun q _ _ => by rw [a.2.1]⟩
theorem c_number {h : Hp} (F : FX h) {c i : Nat} (h6 : h.2.1 1 6 = I c) (hi : i < c) (hc : c ≤ 3) : P_X3_numberAt 1 (I i) h = some (h.2.1 3 i, h) := by
  unfold P_X3_numberAt
  simp (disch := first | assumption | exact FX_setI ‹_› | exact FX_setI (FX_setI ‹_›) | exact FX_setI (FX_setI (FX_setI ‹_›)) | exact FX_setI (FX_setI (FX_setI (FX_setI ‹_›))) | omega) only [gr_0_0, gr_0_1, gr_0_2, gr_0_3, gr_0_4, gr_0_5, gr_0_6, gr_0_7, gr_1_0, gr_1_5, gr_1_7, gr_5_3, gr_5_9, gr_8_3, gr_8_9, gr_11_3, gr_11_9, gr_14_0, gr_14_1, gr_14_2, gr_18_0, gr_18_1, gr_18_2, gr_24_0, gr_24_1, gr_24_2, gr_24_3, gr_24_5, gr_24_6, gr_24_10, gr_24_11, gr_24_12, gr_24_15, al_2, al_3, al_4, al_7, al_10, al_13, al_15, al_16, al_17, al_19, al_20, al_21, al_22, al_23, al_25, al_26, al_27, al_28, al_29, al_30, al_31, al_32, al_33, al_34, as_2, as_3, as_4, as_7, as_10, as_13, as_15, as_16, as_17, as_19, as_20, as_21, as_22, as_23, as_25, as_26, as_27, as_28, as_29, as_30, as_31, as_32, as_33, as_34, gi_0, gi_1, gi_5, gi_8, gi_11, gi_14, gi_18, gi_24, pi_0, pi_1, pi_5, pi_8, pi_11, pi_14, pi_18, pi_24, rc_0, rc_1, rc_5, rc_8, rc_11, rc_14, rc_18, rc_24, ln_2, ln_3, ln_4, ln_7, ln_10, ln_13, ln_15, ln_16, ln_17, ln_19, ln_20, ln_21, ln_22, ln_23, ln_25, ln_26, ln_27, ln_28, ln_29, ln_30, ln_31, ln_32, ln_33, ln_34, ln_6, ln_9, ln_12, ciN, cvN, lt_eq, nn_none, nn_some, setI_1, setI_at, setI_R, upd2_at, I_add, I_addn, Int32.neg_neg, I_mul, I_ltI, I_leI, I_eqI, I_nat, if_true, if_false, reduceIte, reduceIteN, I_difn, bz_0, bz_1, nz_I, I_rem, I_div, I_sub, l4095, l32, l63, l0, l1, l2, l3, l4, l5, l6, l7, l8, l9, l10, l11, l12, l16, l24, l28, l31, l40, l48, l57, l64, l68, l78, l79, l99, l255, l2000, l2187, l1000000000, h6]
theorem c_digit {h : Hp} (F : FX h) {c i : Nat} (h8 : h.2.1 1 8 = I c) (hi : i < c) (hc : c ≤ 12) : P_X3_digitAt 1 (I i) h = some (h.2.1 4 i, h) := by
  unfold P_X3_digitAt
  simp (disch := first | assumption | exact FX_setI ‹_› | exact FX_setI (FX_setI ‹_›) | exact FX_setI (FX_setI (FX_setI ‹_›)) | exact FX_setI (FX_setI (FX_setI (FX_setI ‹_›))) | omega) only [gr_0_0, gr_0_1, gr_0_2, gr_0_3, gr_0_4, gr_0_5, gr_0_6, gr_0_7, gr_1_0, gr_1_5, gr_1_7, gr_5_3, gr_5_9, gr_8_3, gr_8_9, gr_11_3, gr_11_9, gr_14_0, gr_14_1, gr_14_2, gr_18_0, gr_18_1, gr_18_2, gr_24_0, gr_24_1, gr_24_2, gr_24_3, gr_24_5, gr_24_6, gr_24_10, gr_24_11, gr_24_12, gr_24_15, al_2, al_3, al_4, al_7, al_10, al_13, al_15, al_16, al_17, al_19, al_20, al_21, al_22, al_23, al_25, al_26, al_27, al_28, al_29, al_30, al_31, al_32, al_33, al_34, as_2, as_3, as_4, as_7, as_10, as_13, as_15, as_16, as_17, as_19, as_20, as_21, as_22, as_23, as_25, as_26, as_27, as_28, as_29, as_30, as_31, as_32, as_33, as_34, gi_0, gi_1, gi_5, gi_8, gi_11, gi_14, gi_18, gi_24, pi_0, pi_1, pi_5, pi_8, pi_11, pi_14, pi_18, pi_24, rc_0, rc_1, rc_5, rc_8, rc_11, rc_14, rc_18, rc_24, ln_2, ln_3, ln_4, ln_7, ln_10, ln_13, ln_15, ln_16, ln_17, ln_19, ln_20, ln_21, ln_22, ln_23, ln_25, ln_26, ln_27, ln_28, ln_29, ln_30, ln_31, ln_32, ln_33, ln_34, ln_6, ln_9, ln_12, ciN, cvN, lt_eq, nn_none, nn_some, setI_1, setI_at, setI_R, upd2_at, I_add, I_addn, Int32.neg_neg, I_mul, I_ltI, I_leI, I_eqI, I_nat, if_true, if_false, reduceIte, reduceIteN, I_difn, bz_0, bz_1, nz_I, I_rem, I_div, I_sub, l4095, l32, l63, l0, l1, l2, l3, l4, l5, l6, l7, l8, l9, l10, l11, l12, l16, l24, l28, l31, l40, l48, l57, l64, l68, l78, l79, l99, l255, l2000, l2187, l1000000000, h8]
/-- only the trial's own numbers have changed -/
theorem CO_8 {h h' : Hp} {σ τ : Nat → Nat} (a : FxA [8] h h') (C : CO h 8 σ) (hs : ∀ j, j = 2 ∨ j = 3 ∨ 40 ≤ j → τ j = σ j) (f0 : h'.2.1 8 0 = I (τ 0)) (f1 : h'.2.1 8 1 = I (τ 1)) (f2 : h'.2.1 8 2 = I (σ 2)) (f4 : h'.2.1 8 4 = I (stk τ)) (f5 : h'.2.1 8 5 = I (mnd τ)) (f6 : h'.2.1 8 6 = I (enc (fun i => τ (16 + i)))) (f7 : h'.2.1 8 7 = I (enc (fun i => τ (4 + i)))) (f8 : h'.2.1 8 8 = I (σ 78)) (f10 : h'.2.1 8 10 = I (σ 3)) : CO h' 8 τ := by
  obtain ⟨k, hl, hg, hr⟩ := C
  have e : ∀ q, q ≠ 8 → h'.2.1 q = h.2.1 q := fun q hq => a.2.2 q (by simpa using hq)
  refine ⟨⟨f0, f1, by rw [hs 2 (by omega)]; exact f2, f4, f5, f6, f7, by rw [hs 78 (by omega)]; exact f8, by rw [hs 3 (by omega)]; exact f10⟩, fun i hi => ?_, fun p hp => ?_, fun p q hp hq => ?_⟩
  · rw [hs 3 (by omega)] at hi
    rw [hs _ (by omega), e 10 (by decide)]
    exact hl i hi
  · rw [hs 2 (by omega)] at hp
    obtain ⟨q, hq, g1, g2, g3, g4⟩ := hg p hp
    refine ⟨q, by rw [a.2.1]; exact hq, ?_⟩
    unfold GO
    rw [e q (by omega), a.1, hs (40 + 4 * p) (by omega), hs (41 + 4 * p) (by omega), hs (42 + 4 * p) (by omega), hs (43 + 4 * p) (by omega)]
    exact ⟨g1, g2, g3, g4⟩
  · rw [a.2.1] at hq
    rw [a.1]
    exact hr p q hp hq
theorem stk_clr (σ : Nat → Nat) : stk (clr σ) = 0 := msk_0.mpr (fun i hi => by show decide (clr σ (28 + i) = 1) = false; rw [clr_s hi]; rfl)
theorem mnd_clr (σ : Nat → Nat) : mnd (clr σ) = 0 := msk_0.mpr (fun i hi => by
  by_cases h : i < 12
  · rw [if_pos h, clr_h h]; rfl
  · rw [if_neg h, clr_h (by omega)]; rfl)
theorem enc_00 {f : Nat → Nat} (h : ∀ i, i < 12 → ¬ f i = 1 ∧ ¬ f i = 2) : enc f = 0 := msk_0.mpr (fun i hi => by
  by_cases h1 : i < 12
  · rw [if_pos h1]; exact decide_eq_false (h i h1).1
  · rw [if_neg h1]; exact decide_eq_false (h (i - 12) (by omega)).2)
theorem enc_clrh (σ : Nat → Nat) : enc (fun i => clr σ (16 + i)) = 0 := enc_00 (fun i hi => by
  show ¬ clr σ (16 + i) = 1 ∧ ¬ clr σ (16 + i) = 2
  rw [clr_h hi]
  decide)
theorem enc_clrw (σ : Nat → Nat) : enc (fun i => clr σ (4 + i)) = 0 := enc_00 (fun i hi => by
  show ¬ clr σ (4 + i) = 1 ∧ ¬ clr σ (4 + i) = 2
  rw [clr_w hi]
  decide)
theorem c_emptied {h : Hp} {σ : Nat → Nat} (F : FX h) (C : CO h 8 σ) {j a : Nat} (hj : j = 0 ∨ j = 1) :
    ∃ h', (rc (setI h 8 j (I a)) 8 0 <| cv (P_X0_empty 8 (setI h 8 j (I a))) fun h2 => some (1, h2)) = some ((I 1 : Int32), h') ∧ FxA [8] h h' ∧ CO h' 8 (clr (upn σ j a)) := by
  have F1 : FX (setI h 8 j (I a)) := F
  obtain ⟨⟨k0, k1, k2, k4, k5, k6, k7, k8, k10⟩, -⟩ := id C
  have A : FxA [8] h (setI (setI (setI (setI (setI h 8 j (I a)) 8 7 (I 0)) 8 4 (I 0)) 8 5 (I 0)) 8 6 (I 0)) := ((((FxA.set (by simp)).tr (FxA.set (by simp))).tr (FxA.set (by simp))).tr (FxA.set (by simp))).tr (FxA.set (by simp))
  refine ⟨setI (setI (setI (setI (setI h 8 j (I a)) 8 7 (I 0)) 8 4 (I 0)) 8 5 (I 0)) 8 6 (I 0), ?_, A, ?_⟩
  · unfold P_X0_empty
    simp (disch := first | assumption | exact FX_setI ‹_› | exact FX_setI (FX_setI ‹_›) | exact FX_setI (FX_setI (FX_setI ‹_›)) | exact FX_setI (FX_setI (FX_setI (FX_setI ‹_›))) | omega) only [gr_0_0, gr_0_1, gr_0_2, gr_0_3, gr_0_4, gr_0_5, gr_0_6, gr_0_7, gr_1_0, gr_1_5, gr_1_7, gr_5_3, gr_5_9, gr_8_3, gr_8_9, gr_11_3, gr_11_9, gr_14_0, gr_14_1, gr_14_2, gr_18_0, gr_18_1, gr_18_2, gr_24_0, gr_24_1, gr_24_2, gr_24_3, gr_24_5, gr_24_6, gr_24_10, gr_24_11, gr_24_12, gr_24_15, al_2, al_3, al_4, al_7, al_10, al_13, al_15, al_16, al_17, al_19, al_20, al_21, al_22, al_23, al_25, al_26, al_27, al_28, al_29, al_30, al_31, al_32, al_33, al_34, as_2, as_3, as_4, as_7, as_10, as_13, as_15, as_16, as_17, as_19, as_20, as_21, as_22, as_23, as_25, as_26, as_27, as_28, as_29, as_30, as_31, as_32, as_33, as_34, gi_0, gi_1, gi_5, gi_8, gi_11, gi_14, gi_18, gi_24, pi_0, pi_1, pi_5, pi_8, pi_11, pi_14, pi_18, pi_24, rc_0, rc_1, rc_5, rc_8, rc_11, rc_14, rc_18, rc_24, ln_2, ln_3, ln_4, ln_7, ln_10, ln_13, ln_15, ln_16, ln_17, ln_19, ln_20, ln_21, ln_22, ln_23, ln_25, ln_26, ln_27, ln_28, ln_29, ln_30, ln_31, ln_32, ln_33, ln_34, ln_6, ln_9, ln_12, ciN, cvN, lt_eq, nn_none, nn_some, setI_1, setI_at, setI_R, upd2_at, I_add, I_addn, Int32.neg_neg, I_mul, I_ltI, I_leI, I_eqI, I_nat, if_true, if_false, reduceIte, reduceIteN, I_difn, bz_0, bz_1, nz_I, I_rem, I_div, I_sub, l4095, l32, l63, l0, l1, l2, l3, l4, l5, l6, l7, l8, l9, l10, l11, l12, l16, l24, l28, l31, l40, l48, l57, l64, l68, l78, l79, l99, l255, l2000, l2187, l1000000000]
  · have o : ∀ x, x < 7 ∧ x ≠ 4 ∧ x ≠ 5 ∧ x ≠ 6 ∨ 8 ≤ x → (setI (setI (setI (setI (setI h 8 j (I a)) 8 7 (I 0)) 8 4 (I 0)) 8 5 (I 0)) 8 6 (I 0)).2.1 8 x = if x = j then I a else h.2.1 8 x := fun x hx => by
      rw [setI_at, if_neg (by omega), setI_at, if_neg (by omega), setI_at, if_neg (by omega), setI_at, if_neg (by omega), setI_at]
      by_cases e : x = j
      · rw [if_pos ⟨rfl, e⟩, if_pos e]
      · rw [if_neg (fun z => e z.2), if_neg e]
    have c : ∀ x, x < 2 → I (clr (upn σ j a) x) = if x = j then I a else I (σ x) := fun x hx => by
      rw [clr_o (by omega)]
      unfold upn
      by_cases e : x = j
      · rw [if_pos e, if_pos e]
      · rw [if_neg e, if_neg e]
    refine CO_8 A C (fun x hx => by rw [clr_o (by omega), upn_ne (by omega)]) ?_ ?_ ?_ ?_ ?_ ?_ ?_ ?_ ?_
    · rw [o 0 (by omega), c 0 (by omega), k0]
    · rw [o 1 (by omega), c 1 (by omega), k1]
    · rw [o 2 (by omega), if_neg (by omega), k2]
    · rw [stk_clr, setI_at, if_neg (by decide), setI_at, if_neg (by decide), setI_at, if_pos ⟨rfl, rfl⟩]
    · rw [mnd_clr, setI_at, if_neg (by decide), setI_at, if_pos ⟨rfl, rfl⟩]
    · rw [enc_clrh, setI_at, if_pos ⟨rfl, rfl⟩]
    · rw [enc_clrw, setI_at, if_neg (by decide), setI_at, if_neg (by decide), setI_at, if_neg (by decide), setI_at, if_pos ⟨rfl, rfl⟩]
    · rw [o 8 (by omega), if_neg (by omega), k8]
    · rw [o 10 (by omega), if_neg (by omega), k10]
/-- the outcome of an order: told pure, and the trial as it then stands -/
def OB (σ : Nat → Nat) (o : Option (Int32 × Hp)) (h : Hp) (x : Option (Nat → Nat)) : Prop := ∃ h', o = some (bi x.isSome, h') ∧ FO h h' ∧ ∀ τ, x = some τ → CO h' 8 τ
theorem OB_no {σ : Nat → Nat} {o : Option (Int32 × Hp)} {h : Hp} (F : FX h) (e : o = some (I 0, h)) : OB σ o h none := ⟨h, e, FO.rf F, fun τ z => by cases z⟩
theorem OB_yes {σ τ : Nat → Nat} {o : Option (Int32 × Hp)} {h h' : Hp} (f : FO h h') (C : CO h' 8 τ) (e : o = some (I 1, h')) : OB σ o h (some τ) := ⟨h', e, f, fun τ' z => by injection z with z; rw [← z]; exact C⟩
theorem c_oDoors {h : Hp} {σ : Nat → Nat} (F : FX h) (C : CO h 8 σ) {a : Nat} (ha : a < 100) : OB σ (P_X0_obeysDoors 8 (I a) h) h (if 1 ≤ a ∧ a ≤ 12 then some (clr (upn σ 0 a)) else none) := by
  unfold P_X0_obeysDoors
  by_cases h1 : 1 ≤ a
  · by_cases h2 : a ≤ 12
    · obtain ⟨h', e1, e2, e3⟩ := c_emptied (a := a) F C (Or.inl rfl)
      rw [if_pos (show 1 ≤ a ∧ a ≤ 12 from ⟨h1, h2⟩)]
      refine OB_yes (FO.fxa F e2) e3 ?_
      rw [show (1 : Int32) = I 1 from rfl, show (12 : Int32) = I 12 from rfl, if_neg (by rw [I_ltI (by omega) (by decide)]; omega), if_pos (by rw [I_leI (by omega) (by decide)]; omega), pi_8 F]
      exact e1
    · rw [if_neg (show ¬ (1 ≤ a ∧ a ≤ 12) from fun z => h2 z.2)]
      refine OB_no F ?_
      rw [show (1 : Int32) = I 1 from rfl, show (12 : Int32) = I 12 from rfl, if_neg (by rw [I_ltI (by omega) (by decide)]; omega), if_neg (by rw [I_leI (by omega) (by decide)]; omega)]
      rfl
  · rw [if_neg (show ¬ (1 ≤ a ∧ a ≤ 12) from fun z => h1 z.1)]
    refine OB_no F ?_
    rw [show (1 : Int32) = I 1 from rfl, if_pos (by rw [I_ltI (by omega) (by decide)]; omega)]
    rfl
theorem c_oColours {h : Hp} {σ : Nat → Nat} (F : FX h) (C : CO h 8 σ) {a : Nat} (ha : a < 100) : OB σ (P_X0_obeysColours 8 (I a) h) h (if a = 2 ∨ a = 3 then some (clr (upn σ 1 a)) else none) := by
  unfold P_X0_obeysColours
  by_cases h1 : 2 ≤ a
  · by_cases h2 : a ≤ 3
    · obtain ⟨h', e1, e2, e3⟩ := c_emptied (a := a) F C (Or.inr rfl)
      rw [if_pos (show a = 2 ∨ a = 3 by omega)]
      refine OB_yes (FO.fxa F e2) e3 ?_
      rw [show (2 : Int32) = I 2 from rfl, show (3 : Int32) = I 3 from rfl, if_neg (by rw [I_ltI (by omega) (by decide)]; omega), if_pos (by rw [I_leI (by omega) (by decide)]; omega), pi_8 F]
      exact e1
    · rw [if_neg (show ¬ (a = 2 ∨ a = 3) by omega)]
      refine OB_no F ?_
      rw [show (2 : Int32) = I 2 from rfl, show (3 : Int32) = I 3 from rfl, if_neg (by rw [I_ltI (by omega) (by decide)]; omega), if_neg (by rw [I_leI (by omega) (by decide)]; omega)]
      rfl
  · rw [if_neg (show ¬ (a = 2 ∨ a = 3) by omega)]
    refine OB_no F ?_
    rw [show (2 : Int32) = I 2 from rfl, if_pos (by rw [I_ltI (by omega) (by decide)]; omega)]
    rfl
theorem stk_flip {σ : Nat → Nat} (W : WF σ) {a : Nat} (h1 : 1 ≤ a) (h2 : a ≤ 12) : stk σ ^^^ 1 <<< (a - 1) = stk (upn σ (27 + a) (1 - σ (27 + a))) := by
  apply Nat.eq_of_testBit_eq
  intro i
  unfold stk
  rw [Nat.testBit_xor, tb_msk, tb_one, tb_msk]
  by_cases h : i = a - 1
  · have e : 28 + i = 27 + a := by omega
    have hw := W.2.2.2.2.2.2.1 i (by omega)
    have h3 : i < 12 := by omega
    rw [e] at hw
    rw [e, upn_at]
    have : σ (27 + a) = 0 ∨ σ (27 + a) = 1 := by omega
    have h4 : a - 1 < 12 := by omega
    rcases this with z | z <;> simp [h4, z, h]
  · rw [upn_ne (by omega)]
    simp [h]
theorem c_oStuck {h : Hp} {σ : Nat → Nat} (F : FX h) (W : WF σ) (C : CO h 8 σ) {a : Nat} (ha : a < 100) : OB σ (P_X0_obeysStuck 8 (I a) h) h (if 1 ≤ a ∧ a ≤ σ 0 then some (upn σ (27 + a) (1 - σ (27 + a))) else none) := by
  obtain ⟨⟨k0, k1, k2, k4, k5, k6, k7, k8, k10⟩, -⟩ := id C
  have hw := W.1
  have hh := c_hasDoor F (Or.inr rfl) k0 (I a)
  unfold P_X0_obeysStuck
  by_cases c : 1 ≤ a ∧ a ≤ σ 0
  · rw [if_neg (by rw [I_ltI (by omega) (by decide)]; omega), if_neg (by rw [I_ltI (by omega) (by omega)]; omega)] at hh
    rw [if_pos c]
    have hb := c_bitOf (h := h) c.1 (show a ≤ 12 by omega)
    have A : FxA [8] h (setI h 8 4 (I (stk σ ^^^ 1 <<< (a - 1)))) := FxA.set (by simp)
    refine OB_yes (h' := setI h 8 4 (I (stk σ ^^^ 1 <<< (a - 1)))) (FO.fxa F A) (CO_8 A C (fun x hx => upn_ne (by omega)) ?_ ?_ ?_ ?_ ?_ ?_ ?_ ?_ ?_) ?_
    · rw [setI_at, if_neg (by decide), upn_ne (by omega)]; exact k0
    · rw [setI_at, if_neg (by decide), upn_ne (by omega)]; exact k1
    · rw [setI_at, if_neg (by decide)]; exact k2
    · rw [setI_at, if_pos ⟨rfl, rfl⟩, stk_flip W c.1 (by omega)]
    · rw [setI_at, if_neg (by decide), k5]
      refine congrArg I ?_
      exact msk_congr (fun i hi => by
        by_cases h : i < 12
        · rw [if_pos h, if_pos h, upn_ne (by omega)]
        · rw [if_neg h, if_neg h, upn_ne (by omega)])
    · rw [setI_at, if_neg (by decide), k6]
      refine congrArg I ?_
      exact enc_congr (fun i hi => (upn_ne (by omega)).symm)
    · rw [setI_at, if_neg (by decide), k7]
      refine congrArg I ?_
      exact enc_congr (fun i hi => (upn_ne (by omega)).symm)
    · rw [setI_at, if_neg (by decide)]; exact k8
    · rw [setI_at, if_neg (by decide)]; exact k10
    · simp (disch := first | assumption | exact FX_setI ‹_› | exact FX_setI (FX_setI ‹_›) | exact FX_setI (FX_setI (FX_setI ‹_›)) | exact FX_setI (FX_setI (FX_setI (FX_setI ‹_›))) | omega) only [gr_0_0, gr_0_1, gr_0_2, gr_0_3, gr_0_4, gr_0_5, gr_0_6, gr_0_7, gr_1_0, gr_1_5, gr_1_7, gr_5_3, gr_5_9, gr_8_3, gr_8_9, gr_11_3, gr_11_9, gr_14_0, gr_14_1, gr_14_2, gr_18_0, gr_18_1, gr_18_2, gr_24_0, gr_24_1, gr_24_2, gr_24_3, gr_24_5, gr_24_6, gr_24_10, gr_24_11, gr_24_12, gr_24_15, al_2, al_3, al_4, al_7, al_10, al_13, al_15, al_16, al_17, al_19, al_20, al_21, al_22, al_23, al_25, al_26, al_27, al_28, al_29, al_30, al_31, al_32, al_33, al_34, as_2, as_3, as_4, as_7, as_10, as_13, as_15, as_16, as_17, as_19, as_20, as_21, as_22, as_23, as_25, as_26, as_27, as_28, as_29, as_30, as_31, as_32, as_33, as_34, gi_0, gi_1, gi_5, gi_8, gi_11, gi_14, gi_18, gi_24, pi_0, pi_1, pi_5, pi_8, pi_11, pi_14, pi_18, pi_24, rc_0, rc_1, rc_5, rc_8, rc_11, rc_14, rc_18, rc_24, ln_2, ln_3, ln_4, ln_7, ln_10, ln_13, ln_15, ln_16, ln_17, ln_19, ln_20, ln_21, ln_22, ln_23, ln_25, ln_26, ln_27, ln_28, ln_29, ln_30, ln_31, ln_32, ln_33, ln_34, ln_6, ln_9, ln_12, ciN, cvN, lt_eq, nn_none, nn_some, setI_1, setI_at, setI_R, upd2_at, I_add, I_addn, Int32.neg_neg, I_mul, I_ltI, I_leI, I_eqI, I_nat, if_true, if_false, reduceIte, reduceIteN, I_difn, bz_0, bz_1, nz_I, I_rem, I_div, I_sub, l4095, l32, l63, l0, l1, l2, l3, l4, l5, l6, l7, l8, l9, l10, l11, l12, l16, l24, l28, l31, l40, l48, l57, l64, l68, l78, l79, l99, l255, l2000, l2187, l1000000000, hh, k4, hb, I_xor]
  · rw [if_neg c]
    refine OB_no F ?_
    by_cases h1 : a < 1
    · rw [if_pos (by rw [I_ltI (by omega) (by decide)]; exact h1)] at hh
      simp (disch := first | assumption | exact FX_setI ‹_› | exact FX_setI (FX_setI ‹_›) | exact FX_setI (FX_setI (FX_setI ‹_›)) | exact FX_setI (FX_setI (FX_setI (FX_setI ‹_›))) | omega) only [gr_0_0, gr_0_1, gr_0_2, gr_0_3, gr_0_4, gr_0_5, gr_0_6, gr_0_7, gr_1_0, gr_1_5, gr_1_7, gr_5_3, gr_5_9, gr_8_3, gr_8_9, gr_11_3, gr_11_9, gr_14_0, gr_14_1, gr_14_2, gr_18_0, gr_18_1, gr_18_2, gr_24_0, gr_24_1, gr_24_2, gr_24_3, gr_24_5, gr_24_6, gr_24_10, gr_24_11, gr_24_12, gr_24_15, al_2, al_3, al_4, al_7, al_10, al_13, al_15, al_16, al_17, al_19, al_20, al_21, al_22, al_23, al_25, al_26, al_27, al_28, al_29, al_30, al_31, al_32, al_33, al_34, as_2, as_3, as_4, as_7, as_10, as_13, as_15, as_16, as_17, as_19, as_20, as_21, as_22, as_23, as_25, as_26, as_27, as_28, as_29, as_30, as_31, as_32, as_33, as_34, gi_0, gi_1, gi_5, gi_8, gi_11, gi_14, gi_18, gi_24, pi_0, pi_1, pi_5, pi_8, pi_11, pi_14, pi_18, pi_24, rc_0, rc_1, rc_5, rc_8, rc_11, rc_14, rc_18, rc_24, ln_2, ln_3, ln_4, ln_7, ln_10, ln_13, ln_15, ln_16, ln_17, ln_19, ln_20, ln_21, ln_22, ln_23, ln_25, ln_26, ln_27, ln_28, ln_29, ln_30, ln_31, ln_32, ln_33, ln_34, ln_6, ln_9, ln_12, ciN, cvN, lt_eq, nn_none, nn_some, setI_1, setI_at, setI_R, upd2_at, I_add, I_addn, Int32.neg_neg, I_mul, I_ltI, I_leI, I_eqI, I_nat, if_true, if_false, reduceIte, reduceIteN, I_difn, bz_0, bz_1, nz_I, I_rem, I_div, I_sub, l4095, l32, l63, l0, l1, l2, l3, l4, l5, l6, l7, l8, l9, l10, l11, l12, l16, l24, l28, l31, l40, l48, l57, l64, l68, l78, l79, l99, l255, l2000, l2187, l1000000000, hh]
    · rw [if_neg (by rw [I_ltI (by omega) (by decide)]; exact h1), if_pos (by rw [I_ltI (by omega) (by omega)]; omega)] at hh
      simp (disch := first | assumption | exact FX_setI ‹_› | exact FX_setI (FX_setI ‹_›) | exact FX_setI (FX_setI (FX_setI ‹_›)) | exact FX_setI (FX_setI (FX_setI (FX_setI ‹_›))) | omega) only [gr_0_0, gr_0_1, gr_0_2, gr_0_3, gr_0_4, gr_0_5, gr_0_6, gr_0_7, gr_1_0, gr_1_5, gr_1_7, gr_5_3, gr_5_9, gr_8_3, gr_8_9, gr_11_3, gr_11_9, gr_14_0, gr_14_1, gr_14_2, gr_18_0, gr_18_1, gr_18_2, gr_24_0, gr_24_1, gr_24_2, gr_24_3, gr_24_5, gr_24_6, gr_24_10, gr_24_11, gr_24_12, gr_24_15, al_2, al_3, al_4, al_7, al_10, al_13, al_15, al_16, al_17, al_19, al_20, al_21, al_22, al_23, al_25, al_26, al_27, al_28, al_29, al_30, al_31, al_32, al_33, al_34, as_2, as_3, as_4, as_7, as_10, as_13, as_15, as_16, as_17, as_19, as_20, as_21, as_22, as_23, as_25, as_26, as_27, as_28, as_29, as_30, as_31, as_32, as_33, as_34, gi_0, gi_1, gi_5, gi_8, gi_11, gi_14, gi_18, gi_24, pi_0, pi_1, pi_5, pi_8, pi_11, pi_14, pi_18, pi_24, rc_0, rc_1, rc_5, rc_8, rc_11, rc_14, rc_18, rc_24, ln_2, ln_3, ln_4, ln_7, ln_10, ln_13, ln_15, ln_16, ln_17, ln_19, ln_20, ln_21, ln_22, ln_23, ln_25, ln_26, ln_27, ln_28, ln_29, ln_30, ln_31, ln_32, ln_33, ln_34, ln_6, ln_9, ln_12, ciN, cvN, lt_eq, nn_none, nn_some, setI_1, setI_at, setI_R, upd2_at, I_add, I_addn, Int32.neg_neg, I_mul, I_ltI, I_leI, I_eqI, I_nat, if_true, if_false, reduceIte, reduceIteN, I_difn, bz_0, bz_1, nz_I, I_rem, I_div, I_sub, l4095, l32, l63, l0, l1, l2, l3, l4, l5, l6, l7, l8, l9, l10, l11, l12, l16, l24, l28, l31, l40, l48, l57, l64, l68, l78, l79, l99, l255, l2000, l2187, l1000000000, hh]
-- ===== rows of digits =====
def bt (x w : Nat) : Nat := if w = 0 then 0 else if w = 1 then 1 <<< x else (1 <<< x) <<< 12
theorem tb_bt (x w i : Nat) (hx : x < 12) (hw : w < 3) : (bt x w).testBit i = (decide (w = 1 ∧ i = x) || decide (w = 2 ∧ i = 12 + x)) := by
  unfold bt
  have : w = 0 ∨ w = 1 ∨ w = 2 := by omega
  rcases this with rfl | rfl | rfl
  · rw [if_pos rfl]; simp
  · rw [if_neg (by decide), if_pos rfl, tb_one]; simp
  · rw [if_neg (by decide), if_neg (by decide), bit24, tb_one]; simp
theorem enc_bt {f g : Nat → Nat} {x w : Nat} (hx : x < 12) (hw : w < 3) (hf : f x ≠ 1 ∧ f x ≠ 2) (hg : g x = w) (ho : ∀ i, i < 12 → i ≠ x → g i = f i) : enc g = enc f ||| bt x w := by
  apply Nat.eq_of_testBit_eq
  intro i
  rw [Nat.testBit_or, tb_bt x w i hx hw]
  by_cases h1 : i < 12
  · rw [tb_enc1 _ h1, tb_enc1 _ h1]
    have e : ¬ i = 12 + x := by omega
    by_cases h2 : i = x
    · subst h2
      simp [hg, hf.1, e]
    · rw [ho i h1 h2]
      simp [h2, e]
  · by_cases h3 : i < 24
    · obtain ⟨j, rfl⟩ : ∃ j, i = 12 + j := ⟨i - 12, by omega⟩
      have hj : j < 12 := by omega
      rw [tb_enc2 _ hj, tb_enc2 _ hj]
      have e : ¬ 12 + j = x := by omega
      by_cases h2 : j = x
      · subst h2
        simp [hg, hf.2, e]
      · rw [ho j hj h2]
        have e2 : ¬ 12 + j = 12 + x := by omega
        simp [e, e2, h2]
    · rw [tb_enc, tb_enc]
      have e : ¬ i = x := by omega
      have e2 : ¬ i = 12 + x := by omega
      simp [h3, e, e2]
def pw (σ dg : Nat → Nat) (x : Nat) : Nat → Nat := fun j => if 16 ≤ j ∧ j < 28 then (if j - 16 < x then dg (j - 16) else 9) else σ j
theorem pw_at {σ dg : Nat → Nat} {x i : Nat} (hi : i < 12) : pw σ dg x (16 + i) = if i < x then dg i else 9 := by
  unfold pw
  rw [if_pos (by omega), Nat.add_sub_cancel_left]
theorem mnd_pw {σ dg : Nat → Nat} {x : Nat} (hx : x < 12) (h9 : dg x ≠ 9) : mnd (pw σ dg (x + 1)) = mnd (pw σ dg x) ||| (bt x 1 ||| bt x 2) := by
  apply Nat.eq_of_testBit_eq
  intro i
  rw [Nat.testBit_or, Nat.testBit_or, tb_bt x 1 i hx (by decide), tb_bt x 2 i hx (by decide)]
  unfold mnd
  rw [tb_msk, tb_msk]
  have key : ∀ j, j < 12 → (!decide (pw σ dg (x + 1) (16 + j) = 9)) = ((!decide (pw σ dg x (16 + j) = 9)) || decide (j = x)) := fun j hj => by
    rw [pw_at hj, pw_at hj]
    by_cases h1 : j < x
    · have : ¬ j = x := by omega
      rw [if_pos h1, if_pos (by omega)]
      simp [this]
    · rw [if_neg h1]
      by_cases h2 : j = x
      · subst h2
        rw [if_pos (by omega)]
        simp [h9]
      · rw [if_neg (by omega)]
        simp [h2]
  by_cases h1 : i < 12
  · have h2 : i < 24 := by omega
    have h3 : ¬ i = 12 + x := by omega
    rw [if_pos h1, if_pos h1, key i h1]
    simp [h2, h3]
  · by_cases h2 : i < 24
    · have h3 : ¬ i = x := by omega
      rw [if_neg h1, if_neg h1, key (i - 12) (by omega)]
      have e : (i - 12 = x) ↔ (i = 12 + x) := by omega
      simp [h2, h3, e]
    · have h3 : ¬ i = x := by omega
      have h4 : ¬ i = 12 + x := by omega
      simp [h2, h3, h4]
theorem pw_nine {σ dg : Nat → Nat} {x : Nat} (h9 : dg x = 9) : pw σ dg (x + 1) = pw σ dg x := by
  funext j
  unfold pw
  by_cases h1 : 16 ≤ j ∧ j < 28
  · rw [if_pos h1, if_pos h1]
    by_cases h2 : j - 16 < x
    · rw [if_pos h2, if_pos (by omega)]
    · rw [if_neg h2]
      by_cases h3 : j - 16 = x
      · rw [if_pos (by omega), h3, h9]
      · rw [if_neg (by omega)]
  · rw [if_neg h1, if_neg h1]
theorem c_oWish_L {h : Hp} {σ dg : Nat → Nat} (F : FX h) (W : WF σ) (C : CO h 8 σ) (h8 : h.2.1 1 8 = I (σ 0)) (hd : ∀ x, x < σ 0 → h.2.1 4 x = I (dg x)) (hdg : ∀ x, x < σ 0 → dg x ≤ 9) : ∀ (k x m : Nat), x + k = σ 0 → k < m → (∀ y, y < x → fw σ dg y = true) →
    OB σ (P_X0_obeysWish_L20 m 8 1 (I (mnd (pw σ dg x))) (I (enc (fun i => pw σ dg x (16 + i)))) (I (x + 1)) h) h (if alr (fw σ dg) (σ 0) = true then some (rowset σ 16 dg (σ 0)) else none) := by
  have hcol := W.col
  have hw := W.1
  obtain ⟨⟨k0, k1, k2, k4, k5, k6, k7, k8, k10⟩, -⟩ := id C
  intro k
  induction k with
  | zero =>
    intro x m hx hm hy
    cases m with
    | zero => omega
    | succ m =>
      have e : x = σ 0 := by omega
      subst e
      rw [if_pos ((alr_iff _).mpr hy)]
      have A : FxA [8] h (setI (setI h 8 5 (I (mnd (pw σ dg (σ 0))))) 8 6 (I (enc (fun i => pw σ dg (σ 0) (16 + i))))) := (FxA.set (by simp)).tr (FxA.set (by simp))
      have eq : ∀ i, i < 12 → rowset σ 16 dg (σ 0) (16 + i) = pw σ dg (σ 0) (16 + i) := fun i hi => by
        rw [pw_at hi]
        unfold rowset
        by_cases c : i < σ 0
        · rw [if_pos (by omega), if_pos c, Nat.add_sub_cancel_left]
        · rw [if_neg (by omega), if_neg c]
          exact (W.2.2.2.2.2.2.2.2.2 i (by omega) hi).2.1
      have o : ∀ j, j < 16 ∨ 28 ≤ j → rowset σ 16 dg (σ 0) j = σ j := fun j hj => by unfold rowset; rw [if_neg (by omega)]
      refine OB_yes (FO.fxa F A) (CO_8 A C (fun j hj => o j (by omega)) ?_ ?_ ?_ ?_ ?_ ?_ ?_ ?_ ?_) ?_
      · rw [setI_at, if_neg (by decide), setI_at, if_neg (by decide), o 0 (by omega)]; exact k0
      · rw [setI_at, if_neg (by decide), setI_at, if_neg (by decide), o 1 (by omega)]; exact k1
      · rw [setI_at, if_neg (by decide), setI_at, if_neg (by decide)]; exact k2
      · rw [setI_at, if_neg (by decide), setI_at, if_neg (by decide), k4]
        refine congrArg I ?_
        exact msk_congr (fun i hi => by rw [o _ (by omega)])
      · rw [setI_at, if_neg (by decide), setI_at, if_pos ⟨rfl, rfl⟩]
        refine congrArg I ?_
        exact msk_congr (fun i hi => by
          by_cases h : i < 12
          · rw [if_pos h, if_pos h, eq i h]
          · rw [if_neg h, if_neg h, eq (i - 12) (by omega)])
      · rw [setI_at, if_pos ⟨rfl, rfl⟩]
        refine congrArg I ?_
        exact enc_congr (fun i hi => (eq i hi).symm)
      · rw [setI_at, if_neg (by decide), setI_at, if_neg (by decide), k7]
        refine congrArg I ?_
        exact enc_congr (fun i hi => (o _ (by omega)).symm)
      · rw [setI_at, if_neg (by decide), setI_at, if_neg (by decide)]; exact k8
      · rw [setI_at, if_neg (by decide), setI_at, if_neg (by decide)]; exact k10
      · unfold P_X0_obeysWish_L20
        simp (disch := first | assumption | exact FX_setI ‹_› | exact FX_setI (FX_setI ‹_›) | exact FX_setI (FX_setI (FX_setI ‹_›)) | exact FX_setI (FX_setI (FX_setI (FX_setI ‹_›))) | omega) only [gr_0_0, gr_0_1, gr_0_2, gr_0_3, gr_0_4, gr_0_5, gr_0_6, gr_0_7, gr_1_0, gr_1_5, gr_1_7, gr_5_3, gr_5_9, gr_8_3, gr_8_9, gr_11_3, gr_11_9, gr_14_0, gr_14_1, gr_14_2, gr_18_0, gr_18_1, gr_18_2, gr_24_0, gr_24_1, gr_24_2, gr_24_3, gr_24_5, gr_24_6, gr_24_10, gr_24_11, gr_24_12, gr_24_15, al_2, al_3, al_4, al_7, al_10, al_13, al_15, al_16, al_17, al_19, al_20, al_21, al_22, al_23, al_25, al_26, al_27, al_28, al_29, al_30, al_31, al_32, al_33, al_34, as_2, as_3, as_4, as_7, as_10, as_13, as_15, as_16, as_17, as_19, as_20, as_21, as_22, as_23, as_25, as_26, as_27, as_28, as_29, as_30, as_31, as_32, as_33, as_34, gi_0, gi_1, gi_5, gi_8, gi_11, gi_14, gi_18, gi_24, pi_0, pi_1, pi_5, pi_8, pi_11, pi_14, pi_18, pi_24, rc_0, rc_1, rc_5, rc_8, rc_11, rc_14, rc_18, rc_24, ln_2, ln_3, ln_4, ln_7, ln_10, ln_13, ln_15, ln_16, ln_17, ln_19, ln_20, ln_21, ln_22, ln_23, ln_25, ln_26, ln_27, ln_28, ln_29, ln_30, ln_31, ln_32, ln_33, ln_34, ln_6, ln_9, ln_12, ciN, cvN, lt_eq, nn_none, nn_some, setI_1, setI_at, setI_R, upd2_at, I_add, I_addn, Int32.neg_neg, I_mul, I_ltI, I_leI, I_eqI, I_nat, if_true, if_false, reduceIte, reduceIteN, I_difn, bz_0, bz_1, nz_I, I_rem, I_div, I_sub, l4095, l32, l63, l0, l1, l2, l3, l4, l5, l6, l7, l8, l9, l10, l11, l12, l16, l24, l28, l31, l40, l48, l57, l64, l68, l78, l79, l99, l255, l2000, l2187, l1000000000, k0]
  | succ k ih =>
    intro x m hx hm hy
    cases m with
    | zero => omega
    | succ m =>
      have hxn : x < σ 0 := by omega
      have hdi := c_digit F h8 hxn (by omega)
      rw [hd x hxn] at hdi
      have h9' := hdg x hxn
      have hr := fun (hf : fw σ dg x = true) => ih (x + 1) m (by omega) (by omega) (fun y hy' => by
        by_cases e : y = x
        · rw [e]; exact hf
        · exact hy y (by omega))
      by_cases h9 : dg x = 9
      · obtain ⟨h', r1, r2⟩ := hr (by unfold fw; simp [h9])
        refine ⟨h', ?_, r2⟩
        rw [pw_nine h9] at r1
        rw [h9] at hdi
        unfold P_X0_obeysWish_L20
        simp (disch := first | assumption | exact FX_setI ‹_› | exact FX_setI (FX_setI ‹_›) | exact FX_setI (FX_setI (FX_setI ‹_›)) | exact FX_setI (FX_setI (FX_setI (FX_setI ‹_›))) | omega) only [gr_0_0, gr_0_1, gr_0_2, gr_0_3, gr_0_4, gr_0_5, gr_0_6, gr_0_7, gr_1_0, gr_1_5, gr_1_7, gr_5_3, gr_5_9, gr_8_3, gr_8_9, gr_11_3, gr_11_9, gr_14_0, gr_14_1, gr_14_2, gr_18_0, gr_18_1, gr_18_2, gr_24_0, gr_24_1, gr_24_2, gr_24_3, gr_24_5, gr_24_6, gr_24_10, gr_24_11, gr_24_12, gr_24_15, al_2, al_3, al_4, al_7, al_10, al_13, al_15, al_16, al_17, al_19, al_20, al_21, al_22, al_23, al_25, al_26, al_27, al_28, al_29, al_30, al_31, al_32, al_33, al_34, as_2, as_3, as_4, as_7, as_10, as_13, as_15, as_16, as_17, as_19, as_20, as_21, as_22, as_23, as_25, as_26, as_27, as_28, as_29, as_30, as_31, as_32, as_33, as_34, gi_0, gi_1, gi_5, gi_8, gi_11, gi_14, gi_18, gi_24, pi_0, pi_1, pi_5, pi_8, pi_11, pi_14, pi_18, pi_24, rc_0, rc_1, rc_5, rc_8, rc_11, rc_14, rc_18, rc_24, ln_2, ln_3, ln_4, ln_7, ln_10, ln_13, ln_15, ln_16, ln_17, ln_19, ln_20, ln_21, ln_22, ln_23, ln_25, ln_26, ln_27, ln_28, ln_29, ln_30, ln_31, ln_32, ln_33, ln_34, ln_6, ln_9, ln_12, ciN, cvN, lt_eq, nn_none, nn_some, setI_1, setI_at, setI_R, upd2_at, I_add, I_addn, Int32.neg_neg, I_mul, I_ltI, I_leI, I_eqI, I_nat, if_true, if_false, reduceIte, reduceIteN, I_difn, bz_0, bz_1, nz_I, I_rem, I_div, I_sub, l4095, l32, l63, l0, l1, l2, l3, l4, l5, l6, l7, l8, l9, l10, l11, l12, l16, l24, l28, l31, l40, l48, l57, l64, l68, l78, l79, l99, l255, l2000, l2187, l1000000000, k0, hdi, Nat.add_sub_cancel]
        exact r1
      · by_cases hlt : dg x < σ 1
        · obtain ⟨h', r1, r2⟩ := hr (by unfold fw; simp [hlt])
          refine ⟨h', ?_, r2⟩
          have en := enc_bt (f := fun i => pw σ dg x (16 + i)) (g := fun i => pw σ dg (x + 1) (16 + i)) (x := x) (w := dg x) (by omega) (by omega)
            (by show pw σ dg x (16 + x) ≠ 1 ∧ pw σ dg x (16 + x) ≠ 2; rw [pw_at (by omega), if_neg (by omega)]; decide)
            (by show pw σ dg (x + 1) (16 + x) = dg x; rw [pw_at (by omega), if_pos (by omega)])
            (fun i hi hne => by show pw σ dg (x + 1) (16 + i) = pw σ dg x (16 + i); rw [pw_at hi, pw_at hi]; by_cases c : i < x
                                · rw [if_pos c, if_pos (by omega)]
                                · rw [if_neg c, if_neg (by omega)])
          rw [mnd_pw (by omega) h9, en] at r1
          have b1 := c_bitAt (h := h) (d := x + 1) (w := 1) (by omega) (by omega) (by decide)
          have b2 := c_bitAt (h := h) (d := x + 1) (w := 2) (by omega) (by omega) (by decide)
          have b3 := c_bitAt (h := h) (d := x + 1) (w := dg x) (by omega) (by omega) (by omega)
          rw [Nat.add_sub_cancel] at b1 b2 b3
          have b1' : P_X5_bitAt (I (x + 1)) (I 1) h = some (I (bt x 1), h) := b1
          have b2' : P_X5_bitAt (I (x + 1)) (I 2) h = some (I (bt x 2), h) := b2
          have b3' : P_X5_bitAt (I (x + 1)) (I (dg x)) h = some (I (bt x (dg x)), h) := b3
          unfold P_X0_obeysWish_L20
          simp (disch := first | assumption | exact FX_setI ‹_› | exact FX_setI (FX_setI ‹_›) | exact FX_setI (FX_setI (FX_setI ‹_›)) | exact FX_setI (FX_setI (FX_setI (FX_setI ‹_›))) | omega) only [gr_0_0, gr_0_1, gr_0_2, gr_0_3, gr_0_4, gr_0_5, gr_0_6, gr_0_7, gr_1_0, gr_1_5, gr_1_7, gr_5_3, gr_5_9, gr_8_3, gr_8_9, gr_11_3, gr_11_9, gr_14_0, gr_14_1, gr_14_2, gr_18_0, gr_18_1, gr_18_2, gr_24_0, gr_24_1, gr_24_2, gr_24_3, gr_24_5, gr_24_6, gr_24_10, gr_24_11, gr_24_12, gr_24_15, al_2, al_3, al_4, al_7, al_10, al_13, al_15, al_16, al_17, al_19, al_20, al_21, al_22, al_23, al_25, al_26, al_27, al_28, al_29, al_30, al_31, al_32, al_33, al_34, as_2, as_3, as_4, as_7, as_10, as_13, as_15, as_16, as_17, as_19, as_20, as_21, as_22, as_23, as_25, as_26, as_27, as_28, as_29, as_30, as_31, as_32, as_33, as_34, gi_0, gi_1, gi_5, gi_8, gi_11, gi_14, gi_18, gi_24, pi_0, pi_1, pi_5, pi_8, pi_11, pi_14, pi_18, pi_24, rc_0, rc_1, rc_5, rc_8, rc_11, rc_14, rc_18, rc_24, ln_2, ln_3, ln_4, ln_7, ln_10, ln_13, ln_15, ln_16, ln_17, ln_19, ln_20, ln_21, ln_22, ln_23, ln_25, ln_26, ln_27, ln_28, ln_29, ln_30, ln_31, ln_32, ln_33, ln_34, ln_6, ln_9, ln_12, ciN, cvN, lt_eq, nn_none, nn_some, setI_1, setI_at, setI_R, upd2_at, I_add, I_addn, Int32.neg_neg, I_mul, I_ltI, I_leI, I_eqI, I_nat, if_true, if_false, reduceIte, reduceIteN, I_difn, bz_0, bz_1, nz_I, I_rem, I_div, I_sub, l4095, l32, l63, l0, l1, l2, l3, l4, l5, l6, l7, l8, l9, l10, l11, l12, l16, l24, l28, l31, l40, l48, l57, l64, l68, l78, l79, l99, l255, l2000, l2187, l1000000000, k0, k1, hdi, Nat.add_sub_cancel, h9, b1', b2', b3', I_or]
          exact r1
        · rw [if_neg (by rw [alr_no hxn (by unfold fw; simp [h9, hlt])]; decide)]
          refine OB_no F ?_
          unfold P_X0_obeysWish_L20
          simp (disch := first | assumption | exact FX_setI ‹_› | exact FX_setI (FX_setI ‹_›) | exact FX_setI (FX_setI (FX_setI ‹_›)) | exact FX_setI (FX_setI (FX_setI (FX_setI ‹_›))) | omega) only [gr_0_0, gr_0_1, gr_0_2, gr_0_3, gr_0_4, gr_0_5, gr_0_6, gr_0_7, gr_1_0, gr_1_5, gr_1_7, gr_5_3, gr_5_9, gr_8_3, gr_8_9, gr_11_3, gr_11_9, gr_14_0, gr_14_1, gr_14_2, gr_18_0, gr_18_1, gr_18_2, gr_24_0, gr_24_1, gr_24_2, gr_24_3, gr_24_5, gr_24_6, gr_24_10, gr_24_11, gr_24_12, gr_24_15, al_2, al_3, al_4, al_7, al_10, al_13, al_15, al_16, al_17, al_19, al_20, al_21, al_22, al_23, al_25, al_26, al_27, al_28, al_29, al_30, al_31, al_32, al_33, al_34, as_2, as_3, as_4, as_7, as_10, as_13, as_15, as_16, as_17, as_19, as_20, as_21, as_22, as_23, as_25, as_26, as_27, as_28, as_29, as_30, as_31, as_32, as_33, as_34, gi_0, gi_1, gi_5, gi_8, gi_11, gi_14, gi_18, gi_24, pi_0, pi_1, pi_5, pi_8, pi_11, pi_14, pi_18, pi_24, rc_0, rc_1, rc_5, rc_8, rc_11, rc_14, rc_18, rc_24, ln_2, ln_3, ln_4, ln_7, ln_10, ln_13, ln_15, ln_16, ln_17, ln_19, ln_20, ln_21, ln_22, ln_23, ln_25, ln_26, ln_27, ln_28, ln_29, ln_30, ln_31, ln_32, ln_33, ln_34, ln_6, ln_9, ln_12, ciN, cvN, lt_eq, nn_none, nn_some, setI_1, setI_at, setI_R, upd2_at, I_add, I_addn, Int32.neg_neg, I_mul, I_ltI, I_leI, I_eqI, I_nat, if_true, if_false, reduceIte, reduceIteN, I_difn, bz_0, bz_1, nz_I, I_rem, I_div, I_sub, l4095, l32, l63, l0, l1, l2, l3, l4, l5, l6, l7, l8, l9, l10, l11, l12, l16, l24, l28, l31, l40, l48, l57, l64, l68, l78, l79, l99, l255, l2000, l2187, l1000000000, k0, k1, hdi, Nat.add_sub_cancel, h9, hlt]
theorem c_oWish {h : Hp} {σ dg : Nat → Nat} (F : FX h) (W : WF σ) (C : CO h 8 σ) {c : Nat} (hc : c < 100) (h8 : h.2.1 1 8 = I c) (hd : ∀ x, x < c → h.2.1 4 x = I (dg x)) (hdg : ∀ x, x < c → dg x ≤ 9) : OB σ (P_X0_obeysWish 8 1 h) h (if c = σ 0 ∧ alr (fw σ dg) (σ 0) = true then some (rowset σ 16 dg (σ 0)) else none) := by
  have hw := W.1
  have k0 := C.1.1
  unfold P_X0_obeysWish
  by_cases e : c = σ 0
  · subst e
    have h1 := c_oWish_L F W C h8 hd hdg (σ 0) 0 FU (by omega) (by have := FU_eq; omega) (fun y hy => by omega)
    have z1 : mnd (pw σ dg 0) = 0 := msk_0.mpr (fun i hi => by
      by_cases h : i < 12
      · rw [if_pos h, pw_at h, if_neg (by omega)]; rfl
      · rw [if_neg h, pw_at (by omega), if_neg (by omega)]; rfl)
    have z2 : enc (fun i => pw σ dg 0 (16 + i)) = 0 := enc_00 (fun i hi => by
      show ¬ pw σ dg 0 (16 + i) = 1 ∧ ¬ pw σ dg 0 (16 + i) = 2
      rw [pw_at hi, if_neg (by omega)]
      decide)
    rw [z1, z2] at h1
    simp only [true_and]
    rw [gi_1 F, gi_8 F, h8, k0, if_pos rfl]
    exact h1
  · rw [if_neg (fun z => e z.1)]
    refine OB_no F ?_
    rw [gi_1 F, gi_8 F, h8, k0, if_neg (by rw [I_eqI (by omega) (by omega)]; exact e)]
    rfl
