/-! keys -/
def tv (σ : Nat → Nat) (p : Nat) : Nat → Nat := fun i => if tb1 σ p i then 1 else 0
theorem tm_enc {σ : Nat → Nat} (W : WF σ) (p : Nat) : tm σ p = enc (tv σ p) := by
  have hn := W.1
  apply Nat.eq_of_testBit_eq
  intro i
  rw [tb_enc]
  unfold tm
  rw [tb_msk]
  unfold tv tb1
  by_cases h12 : i < 12
  · rw [if_pos h12]
    have : i < 24 := by omega
    cases h : (decide (i < σ 0) && tn σ p (i + 1))
    · simp
    · simp [this]
  · rw [if_neg h12]
    have h1 : ¬ i < σ 0 := by omega
    have h2 : (if (decide (i - 12 < σ 0) && tn σ p (i - 12 + 1)) = true then 1 else 0) ≠ 2 := by split <;> decide
    simp [h1, h2]
    intro _ z
    split at z <;> omega
theorem enc_zf : enc (fun _ => 0) = 0 := rfl
theorem enc_ne {f : Nat → Nat} {i : Nat} (hi : i < 12) (h3 : f i < 3) (h0 : f i ≠ 0) : enc f ≠ 0 := by
  intro z
  have e1 := tb_enc1 f hi
  have e2 := tb_enc2 f hi
  rw [z, Nat.zero_testBit] at e1 e2
  have h : f i = 1 ∨ f i = 2 := by omega
  rcases h with h | h
  · rw [h] at e1; simp at e1
  · rw [h] at e2; simp at e2
theorem enc_lo (p : Nat → Nat) : enc p &&& 4095 = msk (fun i => decide (p i = 1)) 12 := by
  apply Nat.eq_of_testBit_eq
  intro i
  rw [Nat.testBit_and, tb_4095, tb_msk]
  by_cases hi : i < 12
  · rw [tb_enc1 p hi]; simp [hi]
  · simp [hi]
theorem enc_hi (p : Nat → Nat) : enc p >>> 12 = msk (fun i => decide (p i = 2)) 12 := by
  apply Nat.eq_of_testBit_eq
  intro i
  rw [Nat.testBit_shiftRight, tb_msk]
  by_cases hi : i < 12
  · rw [tb_enc2 p hi]; simp [hi]
  · rw [tb_enc]
    have : ¬ 12 + i < 24 := by omega
    simp [hi, this]
theorem c_turnedM {h : Hp} {c : Nat} {v : Nat → Nat} {t : Nat → Bool} (hc : c = 2 ∨ c = 3) (hv : ∀ i, i < 12 → v i < c) : P_X5_turned (I (enc v)) (I (msk t 12)) (I c) h = some (I (enc (tw c v t)), h) := by
  have h1 := c_turned0 (h := h) (enc_lt v) (show msk t 12 < 16777216 from Nat.lt_of_lt_of_le (msk_lt t 12) (by decide)) hc
  rw [turned_enc hc (Nat.le_refl 12) hv] at h1
  rw [h1]
  have : enc (tw c v fun i => decide (i < 12) && t i) = enc (tw c v t) := enc_congr (fun i hi => by unfold tw; simp [hi])
  rw [this]
theorem mod4 (c A b d e : Nat) : (((A % c + b) % c + d) % c + e) % c = (A + b + d + e) % c := by
  rw [Nat.mod_add_mod, Nat.add_assoc ((A % c + b) % c), Nat.mod_add_mod, Nat.add_assoc (A % c), Nat.mod_add_mod]
  congr 1
  omega
theorem c_added_L {h : Hp} {c q : Nat} {v p : Nat → Nat} (hc : c = 2 ∨ c = 3) (hq : q < 1000) (hp : ∀ i, i < 12 → p i < c) : ∀ (k j n : Nat), j + k = q → k < n →
    P_X4_added_L6 n (I (enc p)) (I q) (I c) (I (enc (fun i => (v i + j * p i) % c))) (I j) h = some (I (enc (fun i => (v i + q * p i) % c)), h) := by
  intro k
  induction k with
  | zero =>
    intro j n hj hn
    cases n with
    | zero => omega
    | succ n =>
      have : j = q := by omega
      subst this
      unfold P_X4_added_L6
      simp (disch := first | assumption | exact FX_setI ‹_› | exact FX_setI (FX_setI ‹_›) | exact FX_setI (FX_setI (FX_setI ‹_›)) | exact FX_setI (FX_setI (FX_setI (FX_setI ‹_›))) | omega) only [gr_0_0, gr_0_1, gr_0_2, gr_0_3, gr_0_4, gr_0_5, gr_0_6, gr_0_7, gr_1_0, gr_1_5, gr_1_7, gr_5_3, gr_5_9, gr_8_3, gr_8_9, gr_11_3, gr_11_9, gr_14_0, gr_14_1, gr_14_2, gr_18_0, gr_18_1, gr_18_2, gr_24_0, gr_24_1, gr_24_2, gr_24_3, gr_24_5, gr_24_6, gr_24_10, gr_24_11, gr_24_12, gr_24_15, al_2, al_3, al_4, al_7, al_10, al_13, al_15, al_16, al_17, al_19, al_20, al_21, al_22, al_23, al_25, al_26, al_27, al_28, al_29, al_30, al_31, al_32, al_33, al_34, as_2, as_3, as_4, as_7, as_10, as_13, as_15, as_16, as_17, as_19, as_20, as_21, as_22, as_23, as_25, as_26, as_27, as_28, as_29, as_30, as_31, as_32, as_33, as_34, gi_0, gi_1, gi_5, gi_8, gi_11, gi_14, gi_18, gi_24, pi_0, pi_1, pi_5, pi_8, pi_11, pi_14, pi_18, pi_24, rc_0, rc_1, rc_5, rc_8, rc_11, rc_14, rc_18, rc_24, ln_2, ln_3, ln_4, ln_7, ln_10, ln_13, ln_15, ln_16, ln_17, ln_19, ln_20, ln_21, ln_22, ln_23, ln_25, ln_26, ln_27, ln_28, ln_29, ln_30, ln_31, ln_32, ln_33, ln_34, ln_6, ln_9, ln_12, ciN, cvN, lt_eq, nn_none, nn_some, setI_1, setI_at, setI_R, upd2_at, I_add, I_addn, Int32.neg_neg, I_mul, I_ltI, I_leI, I_eqI, I_nat, if_true, if_false, reduceIte, reduceIteN, I_difn, bz_0, bz_1, nz_I, I_rem, I_div, I_sub, l4095, l32, l63, l0, l1, l2, l3, l4, l5, l6, l7, l8, l9, l10, l11, l12, l16, l24, l28, l31, l40, l48, l57, l64, l68, l78, l79, l99, l255, l2000, l2187, l1000000000]
  | succ k ih =>
    intro j n hj hn
    cases n with
    | zero => omega
    | succ n =>
      have h11 := ih (j + 1) n (by omega) (by omega)
      have hl : ∀ f : Nat → Nat, ∀ i, i < 12 → f i % c < c := fun f i _ => Nat.mod_lt _ (by omega)
      have hpl := enc_lt p
      have t1 := c_turnedM (h := h) (v := fun i => (v i + j * p i) % c) (t := fun i => decide (p i = 1)) hc (hl _)
      have t2 := c_turnedM (h := h) (v := tw c (fun i => (v i + j * p i) % c) (fun i => decide (p i = 1))) (t := fun i => decide (p i = 2)) hc (fun i hi => tw_lt (by omega) _ _ i)
      have t3 := c_turnedM (h := h) (v := tw c (tw c (fun i => (v i + j * p i) % c) (fun i => decide (p i = 1))) (fun i => decide (p i = 2))) (t := fun i => decide (p i = 2)) hc (fun i hi => tw_lt (by omega) _ _ i)
      have e : enc (tw c (tw c (tw c (fun i => (v i + j * p i) % c) (fun i => decide (p i = 1))) (fun i => decide (p i = 2))) (fun i => decide (p i = 2))) = enc (fun i => (v i + (j + 1) * p i) % c) := by
        apply enc_congr
        intro i hi
        have := hp i hi
        have h3 : p i = 0 ∨ p i = 1 ∨ p i = 2 := by omega
        have e3 : v i + j * p i + (if decide (p i = 1) = true then 1 else 0) + (if decide (p i = 2) = true then 1 else 0) + (if decide (p i = 2) = true then 1 else 0) = v i + (j * p i + 1 * p i) := by
          rcases h3 with h3 | h3 | h3
          · simp [h3]
          · simp [h3, Nat.add_assoc]
          · simp [h3, Nat.add_assoc]
        show (((((v i + j * p i) % c + if decide (p i = 1) = true then 1 else 0) % c + if decide (p i = 2) = true then 1 else 0) % c) + if decide (p i = 2) = true then 1 else 0) % c = (v i + (j + 1) * p i) % c
        rw [mod4, Nat.add_mul, e3]
      rw [e] at t3
      have a1 : I (enc p) &&& 4095 = I (msk (fun i => decide (p i = 1)) 12) := by rw [l4095, I_and, enc_lo]
      have a2 : jshr (I (enc p)) 12 = I (msk (fun i => decide (p i = 2)) 12) := by rw [l12, I_shr (by omega) (by decide), enc_hi]
      unfold P_X4_added_L6
      rw [if_neg (show ¬ I q ≤ I j by rw [I_leI (by omega) (by omega)]; omega), a1, a2, t1, ciN, lt_eq, t2, ciN, lt_eq, t3, ciN, lt_eq, lt_eq, I1]
      exact h11
theorem c_added {h : Hp} {c q : Nat} {v p : Nat → Nat} (hc : c = 2 ∨ c = 3) (hq : q < 1000) (hp : ∀ i, i < 12 → p i < c) (hv : ∀ i, i < 12 → v i < c) : P_X4_added (I (enc v)) (I (enc p)) (I q) (I c) h = some (I (enc (fun i => (v i + q * p i) % c)), h) := by
  have h1 := c_added_L (h := h) (v := v) hc hq hp q 0 FU (by omega) (by have := FU_eq; omega)
  have e : enc (fun i => (v i + 0 * p i) % c) = enc v := enc_congr (fun i hi => by rw [Nat.zero_mul, Nat.add_zero, Nat.mod_eq_of_lt (hv i hi)])
  rw [e] at h1
  unfold P_X4_added
  exact h1
/-- the pivots in the heap, and what holds of them -/
def PH (h : Hp) (P : Nat → Nat → Nat) : Prop := ∀ i, i < 12 → h.2.1 17 (i + 1) = I (enc (P i))
def VO (σ : Nat → Nat) (v : Nat → Nat) : Prop := (∀ k, v k < σ 1) ∧ ∀ k, v k ≠ 0 → k < σ 0 ∧ σ (28 + k) ≠ 1
def PO (σ : Nat → Nat) (P : Nat → Nat → Nat) : Prop := (∀ q j, j < q → P q j = 0) ∧ (∀ q, (∀ j, P q j = 0) ∨ P q q ≠ 0) ∧ ∀ q, VO σ (P q)
theorem PO_Ech {σ : Nat → Nat} {P : Nat → Nat → Nat} (O : PO σ P) : Ech (σ 1) P := ⟨O.1, fun q => by
  rcases O.2.1 q with h | h
  · exact Or.inl h
  · refine Or.inr ?_
    rw [Nat.mod_eq_of_lt ((O.2.2 q).1 q)]
    exact h⟩
theorem VO_tv {σ : Nat → Nat} (W : WF σ) (p : Nat) : VO σ (tv σ p) := by
  have hcol := W.col
  refine ⟨fun k => by unfold tv; split <;> omega, fun k hk => ?_⟩
  unfold tv tb1 tn at hk
  by_cases h : (decide (k < σ 0) && (!decide (σ (27 + (k + 1)) = 1) && gp σ p (k + 1))) = true
  · simp only [Bool.and_eq_true, decide_eq_true_eq, Bool.not_eq_true', decide_eq_false_iff_not] at h
    rw [show 28 + k = 27 + (k + 1) by omega]
    exact ⟨h.1, h.2.1⟩
  · rw [if_neg h] at hk
    exact absurd rfl hk
/-- v2 is v and something of the span -/
theorem Sq_shift {c : Nat} {P : Nat → Nat → Nat} (hc : 0 < c) {v v2 u : Nat → Nat} {t : Nat} (hu : Sq c P 12 u) (e : ∀ i, i < 12 → v2 i % c = (v i + t * u i) % c) (w : Nat → Nat) (a : Nat) : Sq c P 12 (va w a v2) ↔ Sq c P 12 (va w a v) := by
  have e2 : ∀ i, i < 12 → (va w a v2) i % c = (va (va w a v) (a * t) u) i % c := fun i hi => by
    unfold va
    rw [Nat.add_mod, Nat.mul_mod, e i hi, ← Nat.mul_mod, ← Nat.add_mod, Nat.mul_add, Nat.mul_assoc, Nat.add_assoc]
  constructor
  · intro s
    exact Sq_back hc (Sq_congr e2 s) hu
  · intro s
    exact Sq_congr (fun i hi => (e2 i hi).symm) (Sq_va s hu (a * t))
theorem c_pivot_L {σ : Nat → Nat} (W : WF σ) {P : Nat → Nat → Nat} (O : PO σ P) {h : Hp} (F : FX h) (C : CO h 5 σ) (H : PH h P) : ∀ (k i n : Nat) (v : Nat → Nat), i + k = σ 0 → k < n → VO σ v → (∀ j, j < i → v j = 0) →
    (P_X4_findPivot_L5 n 14 5 (I (enc v)) (I (i + 1)) h = some (I 0, h) ∧ Sq (σ 1) P 12 v) ∨
    (∃ i0 v' h', P_X4_findPivot_L5 n 14 5 (I (enc v)) (I (i + 1)) h = some (I 1, h') ∧ FxA [17] h h' ∧ i0 < σ 0 ∧ (∀ j, P i0 j = 0) ∧ PH h' (Pi P i0 v') ∧ VO σ v' ∧ (∀ j, j < i0 → v' j = 0) ∧ v' i0 ≠ 0 ∧ ∀ w a, Sq (σ 1) P 12 (va w a v') ↔ Sq (σ 1) P 12 (va w a v)) := by
  have hn0 := W.1
  have hcol := W.col
  have k0 := C.1.1
  have k1 := C.1.2.1
  intro k
  induction k with
  | zero =>
    intro i n v hi hn V hz
    cases n with
    | zero => omega
    | succ n =>
      left
      have : i = σ 0 := by omega
      subst this
      refine ⟨?_, Sq_congr (fun j _ => ?_) (Sq_zero 12)⟩
      · unfold P_X4_findPivot_L5
        simp (disch := first | assumption | exact FX_setI ‹_› | exact FX_setI (FX_setI ‹_›) | exact FX_setI (FX_setI (FX_setI ‹_›)) | exact FX_setI (FX_setI (FX_setI (FX_setI ‹_›))) | omega) only [gr_0_0, gr_0_1, gr_0_2, gr_0_3, gr_0_4, gr_0_5, gr_0_6, gr_0_7, gr_1_0, gr_1_5, gr_1_7, gr_5_3, gr_5_9, gr_8_3, gr_8_9, gr_11_3, gr_11_9, gr_14_0, gr_14_1, gr_14_2, gr_18_0, gr_18_1, gr_18_2, gr_24_0, gr_24_1, gr_24_2, gr_24_3, gr_24_5, gr_24_6, gr_24_10, gr_24_11, gr_24_12, gr_24_15, al_2, al_3, al_4, al_7, al_10, al_13, al_15, al_16, al_17, al_19, al_20, al_21, al_22, al_23, al_25, al_26, al_27, al_28, al_29, al_30, al_31, al_32, al_33, al_34, as_2, as_3, as_4, as_7, as_10, as_13, as_15, as_16, as_17, as_19, as_20, as_21, as_22, as_23, as_25, as_26, as_27, as_28, as_29, as_30, as_31, as_32, as_33, as_34, gi_0, gi_1, gi_5, gi_8, gi_11, gi_14, gi_18, gi_24, pi_0, pi_1, pi_5, pi_8, pi_11, pi_14, pi_18, pi_24, rc_0, rc_1, rc_5, rc_8, rc_11, rc_14, rc_18, rc_24, ln_2, ln_3, ln_4, ln_7, ln_10, ln_13, ln_15, ln_16, ln_17, ln_19, ln_20, ln_21, ln_22, ln_23, ln_25, ln_26, ln_27, ln_28, ln_29, ln_30, ln_31, ln_32, ln_33, ln_34, ln_6, ln_9, ln_12, ciN, cvN, lt_eq, nn_none, nn_some, setI_1, setI_at, setI_R, upd2_at, I_add, I_addn, Int32.neg_neg, I_mul, I_ltI, I_leI, I_eqI, I_nat, if_true, if_false, reduceIte, reduceIteN, I_difn, bz_0, bz_1, nz_I, I_rem, I_div, I_sub, l4095, l32, l63, l0, l1, l2, l3, l4, l5, l6, l7, l8, l9, l10, l11, l12, l16, l24, l28, l31, l40, l48, l57, l64, l68, l78, l79, l99, l255, l2000, l2187, l1000000000, k0]
      · by_cases hj : v j = 0
        · rw [hj]
        · exact absurd (hz j (V.2 j hj).1) hj
  | succ k ih =>
    intro i n v hi hn V hz
    cases n with
    | zero => omega
    | succ n =>
      have hi12 : i < 12 := by omega
      have hvi := V.1 i
      have hw := c_wayOf (h := h) (f := v) (d := i + 1) (by omega) (by omega) (show v (i + 1 - 1) < 3 by rw [Nat.add_sub_cancel]; omega)
      rw [Nat.add_sub_cancel] at hw
      have hpv := H i hi12
      have hpl := enc_lt (P i)
      by_cases h0 : v i = 0
      · have h11 := ih (i + 1) n v (by omega) (by omega) V (fun j hj => by
          by_cases hji : j = i
          · rw [hji]; exact h0
          · exact hz j (by omega))
        have e : P_X4_findPivot_L5 (n + 1) 14 5 (I (enc v)) (I (i + 1)) h = P_X4_findPivot_L5 n 14 5 (I (enc v)) (I (i + 1 + 1)) h := by
          conv => lhs; unfold P_X4_findPivot_L5
          simp (disch := first | assumption | exact FX_setI ‹_› | exact FX_setI (FX_setI ‹_›) | exact FX_setI (FX_setI (FX_setI ‹_›)) | exact FX_setI (FX_setI (FX_setI (FX_setI ‹_›))) | omega) only [gr_0_0, gr_0_1, gr_0_2, gr_0_3, gr_0_4, gr_0_5, gr_0_6, gr_0_7, gr_1_0, gr_1_5, gr_1_7, gr_5_3, gr_5_9, gr_8_3, gr_8_9, gr_11_3, gr_11_9, gr_14_0, gr_14_1, gr_14_2, gr_18_0, gr_18_1, gr_18_2, gr_24_0, gr_24_1, gr_24_2, gr_24_3, gr_24_5, gr_24_6, gr_24_10, gr_24_11, gr_24_12, gr_24_15, al_2, al_3, al_4, al_7, al_10, al_13, al_15, al_16, al_17, al_19, al_20, al_21, al_22, al_23, al_25, al_26, al_27, al_28, al_29, al_30, al_31, al_32, al_33, al_34, as_2, as_3, as_4, as_7, as_10, as_13, as_15, as_16, as_17, as_19, as_20, as_21, as_22, as_23, as_25, as_26, as_27, as_28, as_29, as_30, as_31, as_32, as_33, as_34, gi_0, gi_1, gi_5, gi_8, gi_11, gi_14, gi_18, gi_24, pi_0, pi_1, pi_5, pi_8, pi_11, pi_14, pi_18, pi_24, rc_0, rc_1, rc_5, rc_8, rc_11, rc_14, rc_18, rc_24, ln_2, ln_3, ln_4, ln_7, ln_10, ln_13, ln_15, ln_16, ln_17, ln_19, ln_20, ln_21, ln_22, ln_23, ln_25, ln_26, ln_27, ln_28, ln_29, ln_30, ln_31, ln_32, ln_33, ln_34, ln_6, ln_9, ln_12, ciN, cvN, lt_eq, nn_none, nn_some, setI_1, setI_at, setI_R, upd2_at, I_add, I_addn, Int32.neg_neg, I_mul, I_ltI, I_leI, I_eqI, I_nat, if_true, if_false, reduceIte, reduceIteN, I_difn, bz_0, bz_1, nz_I, I_rem, I_div, I_sub, l4095, l32, l63, l0, l1, l2, l3, l4, l5, l6, l7, l8, l9, l10, l11, l12, l16, l24, l28, l31, l40, l48, l57, l64, l68, l78, l79, l99, l255, l2000, l2187, l1000000000, k0, hw, h0]
        rw [e]
        exact h11
      · by_cases hp0 : P i i = 0
        · right
          have hpz : ∀ j, P i j = 0 := (O.2.1 i).resolve_right (fun z => z hp0)
          have ez : enc (P i) = 0 := by rw [← enc_zf]; exact enc_congr (fun j _ => hpz j)
          refine ⟨i, v, setI h 17 (i + 1) (I (enc v)), ?_, FxA.set (by simp), by omega, hpz, fun q hq => ?_, V, hz, h0, fun w a => Iff.rfl⟩
          · unfold P_X4_findPivot_L5
            simp (disch := first | assumption | exact FX_setI ‹_› | exact FX_setI (FX_setI ‹_›) | exact FX_setI (FX_setI (FX_setI ‹_›)) | exact FX_setI (FX_setI (FX_setI (FX_setI ‹_›))) | omega) only [gr_0_0, gr_0_1, gr_0_2, gr_0_3, gr_0_4, gr_0_5, gr_0_6, gr_0_7, gr_1_0, gr_1_5, gr_1_7, gr_5_3, gr_5_9, gr_8_3, gr_8_9, gr_11_3, gr_11_9, gr_14_0, gr_14_1, gr_14_2, gr_18_0, gr_18_1, gr_18_2, gr_24_0, gr_24_1, gr_24_2, gr_24_3, gr_24_5, gr_24_6, gr_24_10, gr_24_11, gr_24_12, gr_24_15, al_2, al_3, al_4, al_7, al_10, al_13, al_15, al_16, al_17, al_19, al_20, al_21, al_22, al_23, al_25, al_26, al_27, al_28, al_29, al_30, al_31, al_32, al_33, al_34, as_2, as_3, as_4, as_7, as_10, as_13, as_15, as_16, as_17, as_19, as_20, as_21, as_22, as_23, as_25, as_26, as_27, as_28, as_29, as_30, as_31, as_32, as_33, as_34, gi_0, gi_1, gi_5, gi_8, gi_11, gi_14, gi_18, gi_24, pi_0, pi_1, pi_5, pi_8, pi_11, pi_14, pi_18, pi_24, rc_0, rc_1, rc_5, rc_8, rc_11, rc_14, rc_18, rc_24, ln_2, ln_3, ln_4, ln_7, ln_10, ln_13, ln_15, ln_16, ln_17, ln_19, ln_20, ln_21, ln_22, ln_23, ln_25, ln_26, ln_27, ln_28, ln_29, ln_30, ln_31, ln_32, ln_33, ln_34, ln_6, ln_9, ln_12, ciN, cvN, lt_eq, nn_none, nn_some, setI_1, setI_at, setI_R, upd2_at, I_add, I_addn, Int32.neg_neg, I_mul, I_ltI, I_leI, I_eqI, I_nat, if_true, if_false, reduceIte, reduceIteN, I_difn, bz_0, bz_1, nz_I, I_rem, I_div, I_sub, l4095, l32, l63, l0, l1, l2, l3, l4, l5, l6, l7, l8, l9, l10, l11, l12, l16, l24, l28, l31, l40, l48, l57, l64, l68, l78, l79, l99, l255, l2000, l2187, l1000000000, k0, hw, hpv, ez]
          · rw [setI_at]
            unfold Pi
            by_cases hqi : q = i
            · rw [if_pos ⟨rfl, by omega⟩, if_pos hqi]
            · rw [if_neg (by omega), if_neg hqi]
              exact H q hq
        · have hpi := (O.2.2 i).1 i
          have hwp := c_wayOf (h := h) (f := P i) (d := i + 1) (by omega) (by omega) (show P i (i + 1 - 1) < 3 by rw [Nat.add_sub_cancel]; omega)
          rw [Nat.add_sub_cancel] at hwp
          have hne : ¬ enc (P i) = 0 := enc_ne hi12 (by omega) hp0
          have go : ∀ q, q < 1000 → (v i + q * P i i) % σ 1 = 0 → P_X4_findPivot_L5 (n + 1) 14 5 (I (enc v)) (I (i + 1)) h = P_X4_findPivot_L5 n 14 5 (I (enc (fun j => (v j + q * P i j) % σ 1))) (I (i + 1 + 1)) h →
              ((P_X4_findPivot_L5 (n + 1) 14 5 (I (enc v)) (I (i + 1)) h = some (I 0, h) ∧ Sq (σ 1) P 12 v) ∨
              (∃ i0 v' h', P_X4_findPivot_L5 (n + 1) 14 5 (I (enc v)) (I (i + 1)) h = some (I 1, h') ∧ FxA [17] h h' ∧ i0 < σ 0 ∧ (∀ j, P i0 j = 0) ∧ PH h' (Pi P i0 v') ∧ VO σ v' ∧ (∀ j, j < i0 → v' j = 0) ∧ v' i0 ≠ 0 ∧ ∀ w a, Sq (σ 1) P 12 (va w a v') ↔ Sq (σ 1) P 12 (va w a v))) := by
            intro q hq hqz e
            have sh := fun w a => Sq_shift (c := σ 1) (P := P) (by omega) (v := v) (v2 := fun j => (v j + q * P i j) % σ 1) (u := P i) (t := q) (Sq_mem (by omega) (by omega) hi12) (fun j _ => by rw [Nat.mod_mod]) w a
            rw [e]
            rcases ih (i + 1) n (fun j => (v j + q * P i j) % σ 1) (by omega) (by omega) ⟨fun j => Nat.mod_lt _ (by omega), fun j hj => by
                by_cases hvj : v j = 0
                · have hPj : P i j ≠ 0 := fun z => hj (by show (v j + q * P i j) % σ 1 = 0; rw [hvj, z, Nat.mul_zero, Nat.add_zero, Nat.zero_mod])
                  exact (O.2.2 i).2 j hPj
                · exact V.2 j hvj⟩ (fun j hj => by
                by_cases hji : j = i
                · rw [hji]; exact hqz
                · show (v j + q * P i j) % σ 1 = 0
                  rw [hz j (by omega), O.1 i j (by omega), Nat.mul_zero, Nat.add_zero, Nat.zero_mod]) with ⟨a1, a2⟩ | ⟨i0, v', h', a1, a2, a3, a4, a5, a6, a7, a8, a9⟩
            · left
              refine ⟨a1, ?_⟩
              have := (sh (fun _ => 0) 1).mp (Sq_eq (fun j => by unfold va; simp) a2)
              exact Sq_eq (fun j => by unfold va; simp) this
            · right
              exact ⟨i0, v', h', a1, a2, a3, a4, a5, a6, a7, a8, fun w a => (a9 w a).trans (sh w a)⟩
          by_cases heq : v i = P i i
          · refine go (σ 1 - 1) (by omega) ?_ ?_
            · rw [heq]
              have : P i i + (σ 1 - 1) * P i i = σ 1 * P i i := by
                obtain ⟨c', hc'⟩ : ∃ c', σ 1 = c' + 1 := ⟨σ 1 - 1, by omega⟩
                rw [hc', Nat.add_sub_cancel, Nat.succ_mul]
                omega
              rw [this, Nat.mul_mod_right]
            · have had := c_added (h := h) (c := σ 1) (q := σ 1 - 1) (v := v) (p := P i) W.2.1 (by omega) (fun j _ => (O.2.2 i).1 j) (fun j _ => V.1 j)
              conv => lhs; unfold P_X4_findPivot_L5
              simp (disch := first | assumption | exact FX_setI ‹_› | exact FX_setI (FX_setI ‹_›) | exact FX_setI (FX_setI (FX_setI ‹_›)) | exact FX_setI (FX_setI (FX_setI (FX_setI ‹_›))) | omega) only [gr_0_0, gr_0_1, gr_0_2, gr_0_3, gr_0_4, gr_0_5, gr_0_6, gr_0_7, gr_1_0, gr_1_5, gr_1_7, gr_5_3, gr_5_9, gr_8_3, gr_8_9, gr_11_3, gr_11_9, gr_14_0, gr_14_1, gr_14_2, gr_18_0, gr_18_1, gr_18_2, gr_24_0, gr_24_1, gr_24_2, gr_24_3, gr_24_5, gr_24_6, gr_24_10, gr_24_11, gr_24_12, gr_24_15, al_2, al_3, al_4, al_7, al_10, al_13, al_15, al_16, al_17, al_19, al_20, al_21, al_22, al_23, al_25, al_26, al_27, al_28, al_29, al_30, al_31, al_32, al_33, al_34, as_2, as_3, as_4, as_7, as_10, as_13, as_15, as_16, as_17, as_19, as_20, as_21, as_22, as_23, as_25, as_26, as_27, as_28, as_29, as_30, as_31, as_32, as_33, as_34, gi_0, gi_1, gi_5, gi_8, gi_11, gi_14, gi_18, gi_24, pi_0, pi_1, pi_5, pi_8, pi_11, pi_14, pi_18, pi_24, rc_0, rc_1, rc_5, rc_8, rc_11, rc_14, rc_18, rc_24, ln_2, ln_3, ln_4, ln_7, ln_10, ln_13, ln_15, ln_16, ln_17, ln_19, ln_20, ln_21, ln_22, ln_23, ln_25, ln_26, ln_27, ln_28, ln_29, ln_30, ln_31, ln_32, ln_33, ln_34, ln_6, ln_9, ln_12, ciN, cvN, lt_eq, nn_none, nn_some, setI_1, setI_at, setI_R, upd2_at, I_add, I_addn, Int32.neg_neg, I_mul, I_ltI, I_leI, I_eqI, I_nat, if_true, if_false, reduceIte, reduceIteN, I_difn, bz_0, bz_1, nz_I, I_rem, I_div, I_sub, l4095, l32, l63, l0, l1, l2, l3, l4, l5, l6, l7, l8, l9, l10, l11, l12, l16, l24, l28, l31, l40, l48, l57, l64, l68, l78, l79, l99, l255, l2000, l2187, l1000000000, k0, hw, hpv, hwp, heq, k1, had]
          · refine go 1 (by omega) ?_ ?_
            · rw [Nat.one_mul]
              have h3 : σ 1 = 3 := by rcases W.2.1 with h | h <;> omega
              rw [h3] at hvi hpi ⊢
              have : v i + P i i = 3 := by omega
              rw [this]
            · have had := c_added (h := h) (c := σ 1) (q := 1) (v := v) (p := P i) W.2.1 (by omega) (fun j _ => (O.2.2 i).1 j) (fun j _ => V.1 j)
              conv => lhs; unfold P_X4_findPivot_L5
              simp (disch := first | assumption | exact FX_setI ‹_› | exact FX_setI (FX_setI ‹_›) | exact FX_setI (FX_setI (FX_setI ‹_›)) | exact FX_setI (FX_setI (FX_setI (FX_setI ‹_›))) | omega) only [gr_0_0, gr_0_1, gr_0_2, gr_0_3, gr_0_4, gr_0_5, gr_0_6, gr_0_7, gr_1_0, gr_1_5, gr_1_7, gr_5_3, gr_5_9, gr_8_3, gr_8_9, gr_11_3, gr_11_9, gr_14_0, gr_14_1, gr_14_2, gr_18_0, gr_18_1, gr_18_2, gr_24_0, gr_24_1, gr_24_2, gr_24_3, gr_24_5, gr_24_6, gr_24_10, gr_24_11, gr_24_12, gr_24_15, al_2, al_3, al_4, al_7, al_10, al_13, al_15, al_16, al_17, al_19, al_20, al_21, al_22, al_23, al_25, al_26, al_27, al_28, al_29, al_30, al_31, al_32, al_33, al_34, as_2, as_3, as_4, as_7, as_10, as_13, as_15, as_16, as_17, as_19, as_20, as_21, as_22, as_23, as_25, as_26, as_27, as_28, as_29, as_30, as_31, as_32, as_33, as_34, gi_0, gi_1, gi_5, gi_8, gi_11, gi_14, gi_18, gi_24, pi_0, pi_1, pi_5, pi_8, pi_11, pi_14, pi_18, pi_24, rc_0, rc_1, rc_5, rc_8, rc_11, rc_14, rc_18, rc_24, ln_2, ln_3, ln_4, ln_7, ln_10, ln_13, ln_15, ln_16, ln_17, ln_19, ln_20, ln_21, ln_22, ln_23, ln_25, ln_26, ln_27, ln_28, ln_29, ln_30, ln_31, ln_32, ln_33, ln_34, ln_6, ln_9, ln_12, ciN, cvN, lt_eq, nn_none, nn_some, setI_1, setI_at, setI_R, upd2_at, I_add, I_addn, Int32.neg_neg, I_mul, I_ltI, I_leI, I_eqI, I_nat, if_true, if_false, reduceIte, reduceIteN, I_difn, bz_0, bz_1, nz_I, I_rem, I_div, I_sub, l4095, l32, l63, l0, l1, l2, l3, l4, l5, l6, l7, l8, l9, l10, l11, l12, l16, l24, l28, l31, l40, l48, l57, l64, l68, l78, l79, l99, l255, l2000, l2187, l1000000000, k0, hw, hpv, hwp, k1, had]
