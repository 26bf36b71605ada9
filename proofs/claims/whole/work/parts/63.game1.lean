/-! The class's match -/
def Gc (σ : Nat → Nat) (row : Nat) : Bool := wsd σ (cw σ (cur σ) row)
def nxc (σ : Nat → Nat) (r p : Nat) : Nat := nxm (σ 1) r (σ 2 - 1 - p)
def bfc (σ : Nat → Nat) (r p : Nat) : Nat := bef (σ 1) r (σ 2 - 1 - p)
theorem bkc {σ : Nat → Nat} (W : WF σ) : Bk (nxc σ) (bfc σ) (σ 2) (σ 1 ^ σ 2) := bk_ok W.2.1
theorem nxc_lt {σ : Nat → Nat} (W : WF σ) : ∀ r p, r < σ 1 ^ σ 2 → p < σ 2 → nxc σ r p < σ 1 ^ σ 2 := fun r p h1 h2 => ((bkc W).2 r p h1 h2).1
theorem LDS_fx {A : List Nat} {h h' : Hp} {σ f : Nat → Nat} (a : FxA A h h') (hA : 14 ∉ A ∧ 15 ∉ A ∧ 16 ∉ A) (L : LDS h σ f) : LDS h' σ f := by
  unfold LDS LH LE at L ⊢
  rw [a.2.2 14 hA.1, a.2.2 15 hA.2.1, a.2.2 16 hA.2.2]
  exact L
def A4 : List Nat := [18, 19, 20, 21]
/-- the game's tables -/
def CG (h : Hp) (N : Nat) (v hp q : Nat → Nat) (n : Nat) : Prop := (∀ r, r < N → h.2.1 19 r = I (v r)) ∧ (∀ r, r < N → h.2.1 20 r = I (hp r)) ∧ (∀ j, j < n → h.2.1 21 j = I (q j)) ∧ h.2.1 18 3 = I n
theorem c_before {σ f : Nat → Nat} {h : Hp} (W : WF σ) (F : FX h) (L : LDS h σ f) {row p : Nat} (hr : row < σ 1 ^ σ 2) (hp : p < σ 2) : P_X4_before 14 (I row) (I p) h = some (I (bfc σ row p), h) := by
  have hb := W.rows.1
  have hcol := W.col
  have hw := c_weightOf W F L hp
  have ht := c_timesIn W F L (row := row) (show row < 2147483648 by omega) hp
  have hc5 := L.1.2
  have hd := dgc_lt W row p
  have hb2 : σ 1 ^ (σ 2 - 1 - p) ≤ 2187 := Nat.le_trans (Nat.pow_le_pow_right (by omega) (by omega)) W.rows.1
  unfold P_X4_before bfc bef
  by_cases h0 : 0 < dgt (σ 1) row (σ 2 - 1 - p)
  · have h0' : 0 < dgc σ row p := h0
    have h1 := (dg_sub (c := σ 1) (r := row) (k := σ 2 - 1 - p) (m := 1) (by omega) h0).1
    rw [Nat.one_mul] at h1
    simp (disch := first | assumption | exact FX_setI ‹_› | exact FX_setI (FX_setI ‹_›) | exact FX_setI (FX_setI (FX_setI ‹_›)) | exact FX_setI (FX_setI (FX_setI (FX_setI ‹_›))) | omega) only [gr_0_0, gr_0_1, gr_0_2, gr_0_3, gr_0_4, gr_0_5, gr_0_6, gr_0_7, gr_1_0, gr_1_5, gr_1_7, gr_5_3, gr_5_9, gr_8_3, gr_8_9, gr_11_3, gr_11_9, gr_14_0, gr_14_1, gr_14_2, gr_18_0, gr_18_1, gr_18_2, gr_24_0, gr_24_1, gr_24_2, gr_24_3, gr_24_5, gr_24_6, gr_24_10, gr_24_11, gr_24_12, gr_24_15, al_2, al_3, al_4, al_7, al_10, al_13, al_15, al_16, al_17, al_19, al_20, al_21, al_22, al_23, al_25, al_26, al_27, al_28, al_29, al_30, al_31, al_32, al_33, al_34, as_2, as_3, as_4, as_7, as_10, as_13, as_15, as_16, as_17, as_19, as_20, as_21, as_22, as_23, as_25, as_26, as_27, as_28, as_29, as_30, as_31, as_32, as_33, as_34, gi_0, gi_1, gi_5, gi_8, gi_11, gi_14, gi_18, gi_24, pi_0, pi_1, pi_5, pi_8, pi_11, pi_14, pi_18, pi_24, rc_0, rc_1, rc_5, rc_8, rc_11, rc_14, rc_18, rc_24, ln_2, ln_3, ln_4, ln_7, ln_10, ln_13, ln_15, ln_16, ln_17, ln_19, ln_20, ln_21, ln_22, ln_23, ln_25, ln_26, ln_27, ln_28, ln_29, ln_30, ln_31, ln_32, ln_33, ln_34, ln_6, ln_9, ln_12, ciN, cvN, lt_eq, nn_none, nn_some, setI_1, setI_at, setI_R, upd2_at, I_add, I_addn, Int32.neg_neg, I_mul, I_ltI, I_leI, I_eqI, I_nat, if_true, if_false, reduceIte, reduceIteN, I_difn, bz_0, bz_1, nz_I, I_rem, I_div, I_sub, l4095, l32, l63, l0, l1, l2, l3, l4, l5, l6, l7, l8, l9, l10, l11, l12, l16, l24, l28, l31, l40, l48, l57, l64, l68, l78, l79, l99, l255, l2000, l2187, l1000000000, hw, ht, hc5]
  · have h0' : dgc σ row p = 0 := by
      have : ¬ 0 < dgc σ row p := h0
      omega
    rw [if_neg h0]
    simp (disch := first | assumption | exact FX_setI ‹_› | exact FX_setI (FX_setI ‹_›) | exact FX_setI (FX_setI (FX_setI ‹_›)) | exact FX_setI (FX_setI (FX_setI (FX_setI ‹_›))) | omega) only [gr_0_0, gr_0_1, gr_0_2, gr_0_3, gr_0_4, gr_0_5, gr_0_6, gr_0_7, gr_1_0, gr_1_5, gr_1_7, gr_5_3, gr_5_9, gr_8_3, gr_8_9, gr_11_3, gr_11_9, gr_14_0, gr_14_1, gr_14_2, gr_18_0, gr_18_1, gr_18_2, gr_24_0, gr_24_1, gr_24_2, gr_24_3, gr_24_5, gr_24_6, gr_24_10, gr_24_11, gr_24_12, gr_24_15, al_2, al_3, al_4, al_7, al_10, al_13, al_15, al_16, al_17, al_19, al_20, al_21, al_22, al_23, al_25, al_26, al_27, al_28, al_29, al_30, al_31, al_32, al_33, al_34, as_2, as_3, as_4, as_7, as_10, as_13, as_15, as_16, as_17, as_19, as_20, as_21, as_22, as_23, as_25, as_26, as_27, as_28, as_29, as_30, as_31, as_32, as_33, as_34, gi_0, gi_1, gi_5, gi_8, gi_11, gi_14, gi_18, gi_24, pi_0, pi_1, pi_5, pi_8, pi_11, pi_14, pi_18, pi_24, rc_0, rc_1, rc_5, rc_8, rc_11, rc_14, rc_18, rc_24, ln_2, ln_3, ln_4, ln_7, ln_10, ln_13, ln_15, ln_16, ln_17, ln_19, ln_20, ln_21, ln_22, ln_23, ln_25, ln_26, ln_27, ln_28, ln_29, ln_30, ln_31, ln_32, ln_33, ln_34, ln_6, ln_9, ln_12, ciN, cvN, lt_eq, nn_none, nn_some, setI_1, setI_at, setI_R, upd2_at, I_add, I_addn, Int32.neg_neg, I_mul, I_ltI, I_leI, I_eqI, I_nat, if_true, if_false, reduceIte, reduceIteN, I_difn, bz_0, bz_1, nz_I, I_rem, I_div, I_sub, l4095, l32, l63, l0, l1, l2, l3, l4, l5, l6, l7, l8, l9, l10, l11, l12, l16, l24, l28, l31, l40, l48, l57, l64, l68, l78, l79, l99, l255, l2000, l2187, l1000000000, hw, ht, hc5, h0']
theorem c_verdictOf {h : Hp} {N n : Nat} {v hp q : Nat → Nat} (F : FX h) (X : CG h N v hp q n) (hN : N ≤ 2187) {r : Nat} (hr : r < N) : P_X1_verdictOf 18 (I r) h = some (I (v r), h) := by
  have h1 := X.1 r hr
  unfold P_X1_verdictOf
  simp (disch := first | assumption | exact FX_setI ‹_› | exact FX_setI (FX_setI ‹_›) | exact FX_setI (FX_setI (FX_setI ‹_›)) | exact FX_setI (FX_setI (FX_setI (FX_setI ‹_›))) | omega) only [gr_0_0, gr_0_1, gr_0_2, gr_0_3, gr_0_4, gr_0_5, gr_0_6, gr_0_7, gr_1_0, gr_1_5, gr_1_7, gr_5_3, gr_5_9, gr_8_3, gr_8_9, gr_11_3, gr_11_9, gr_14_0, gr_14_1, gr_14_2, gr_18_0, gr_18_1, gr_18_2, gr_24_0, gr_24_1, gr_24_2, gr_24_3, gr_24_5, gr_24_6, gr_24_10, gr_24_11, gr_24_12, gr_24_15, al_2, al_3, al_4, al_7, al_10, al_13, al_15, al_16, al_17, al_19, al_20, al_21, al_22, al_23, al_25, al_26, al_27, al_28, al_29, al_30, al_31, al_32, al_33, al_34, as_2, as_3, as_4, as_7, as_10, as_13, as_15, as_16, as_17, as_19, as_20, as_21, as_22, as_23, as_25, as_26, as_27, as_28, as_29, as_30, as_31, as_32, as_33, as_34, gi_0, gi_1, gi_5, gi_8, gi_11, gi_14, gi_18, gi_24, pi_0, pi_1, pi_5, pi_8, pi_11, pi_14, pi_18, pi_24, rc_0, rc_1, rc_5, rc_8, rc_11, rc_14, rc_18, rc_24, ln_2, ln_3, ln_4, ln_7, ln_10, ln_13, ln_15, ln_16, ln_17, ln_19, ln_20, ln_21, ln_22, ln_23, ln_25, ln_26, ln_27, ln_28, ln_29, ln_30, ln_31, ln_32, ln_33, ln_34, ln_6, ln_9, ln_12, ciN, cvN, lt_eq, nn_none, nn_some, setI_1, setI_at, setI_R, upd2_at, I_add, I_addn, Int32.neg_neg, I_mul, I_ltI, I_leI, I_eqI, I_nat, if_true, if_false, reduceIte, reduceIteN, I_difn, bz_0, bz_1, nz_I, I_rem, I_div, I_sub, l4095, l32, l63, l0, l1, l2, l3, l4, l5, l6, l7, l8, l9, l10, l11, l12, l16, l24, l28, l31, l40, l48, l57, l64, l68, l78, l79, l99, l255, l2000, l2187, l1000000000, h1]
theorem c_settle {h : Hp} (F : FX h) {n r : Nat} {x : Int32} (h3 : h.2.1 18 3 = I n) (hr : r < 2187) (hn : n < 2187) : P_X1_settle 18 (I r) x h = some (setI (setI (setI h 19 r x) 21 n (I r)) 18 3 (I (n + 1))) := by
  unfold P_X1_settle
  simp (disch := first | assumption | exact FX_setI ‹_› | exact FX_setI (FX_setI ‹_›) | exact FX_setI (FX_setI (FX_setI ‹_›)) | exact FX_setI (FX_setI (FX_setI (FX_setI ‹_›))) | omega) only [gr_0_0, gr_0_1, gr_0_2, gr_0_3, gr_0_4, gr_0_5, gr_0_6, gr_0_7, gr_1_0, gr_1_5, gr_1_7, gr_5_3, gr_5_9, gr_8_3, gr_8_9, gr_11_3, gr_11_9, gr_14_0, gr_14_1, gr_14_2, gr_18_0, gr_18_1, gr_18_2, gr_24_0, gr_24_1, gr_24_2, gr_24_3, gr_24_5, gr_24_6, gr_24_10, gr_24_11, gr_24_12, gr_24_15, al_2, al_3, al_4, al_7, al_10, al_13, al_15, al_16, al_17, al_19, al_20, al_21, al_22, al_23, al_25, al_26, al_27, al_28, al_29, al_30, al_31, al_32, al_33, al_34, as_2, as_3, as_4, as_7, as_10, as_13, as_15, as_16, as_17, as_19, as_20, as_21, as_22, as_23, as_25, as_26, as_27, as_28, as_29, as_30, as_31, as_32, as_33, as_34, gi_0, gi_1, gi_5, gi_8, gi_11, gi_14, gi_18, gi_24, pi_0, pi_1, pi_5, pi_8, pi_11, pi_14, pi_18, pi_24, rc_0, rc_1, rc_5, rc_8, rc_11, rc_14, rc_18, rc_24, ln_2, ln_3, ln_4, ln_7, ln_10, ln_13, ln_15, ln_16, ln_17, ln_19, ln_20, ln_21, ln_22, ln_23, ln_25, ln_26, ln_27, ln_28, ln_29, ln_30, ln_31, ln_32, ln_33, ln_34, ln_6, ln_9, ln_12, ciN, cvN, lt_eq, nn_none, nn_some, setI_1, setI_at, setI_R, upd2_at, I_add, I_addn, Int32.neg_neg, I_mul, I_ltI, I_leI, I_eqI, I_nat, if_true, if_false, reduceIte, reduceIteN, I_difn, bz_0, bz_1, nz_I, I_rem, I_div, I_sub, l4095, l32, l63, l0, l1, l2, l3, l4, l5, l6, l7, l8, l9, l10, l11, l12, l16, l24, l28, l31, l40, l48, l57, l64, l68, l78, l79, l99, l255, l2000, l2187, l1000000000, h3]
theorem CG_settle {h : Hp} {N n r x : Nat} {v hp q : Nat → Nat} (X : CG h N v hp q n) : CG (setI (setI (setI h 19 r (I x)) 21 n (I r)) 18 3 (I (n + 1))) N (upn v r x) hp (upn q n r) (n + 1) ∧ FxA A4 h (setI (setI (setI h 19 r (I x)) 21 n (I r)) 18 3 (I (n + 1))) := by
  obtain ⟨a, b, c, d⟩ := X
  refine ⟨⟨fun i hi => ?_, fun i hi => ?_, fun j hj => ?_, ?_⟩, ((FxA.set (by decide)).tr (FxA.set (by decide))).tr (FxA.set (by decide))⟩
  · rw [setI_ne (by decide), setI_ne (by decide), setI_at]
    by_cases h : i = r
    · rw [if_pos ⟨rfl, h⟩, h, upn_at]
    · rw [if_neg (fun z => h z.2), upn_ne h]
      exact a i hi
  · rw [setI_ne (by decide), setI_ne (by decide), setI_ne (by decide)]
    exact b i hi
  · rw [setI_ne (by decide), setI_at]
    by_cases h : j = n
    · rw [if_pos ⟨rfl, h⟩, h, upn_at]
    · rw [if_neg (fun z => h z.2), upn_ne h, setI_ne (by decide)]
      exact c j (by omega)
  · rw [setI_at, if_pos ⟨rfl, rfl⟩]
theorem CG_hope {h : Hp} {N n r x : Nat} {v hp q : Nat → Nat} (X : CG h N v hp q n) : CG (setI h 20 r (I x)) N v (upn hp r x) q n ∧ FxA A4 h (setI h 20 r (I x)) := by
  obtain ⟨a, b, c, d⟩ := X
  refine ⟨⟨fun i hi => ?_, fun i hi => ?_, fun j hj => ?_, ?_⟩, FxA.set (by decide)⟩
  · rw [setI_ne (by decide)]
    exact a i hi
  · rw [setI_at]
    by_cases h : i = r
    · rw [if_pos ⟨rfl, h⟩, h, upn_at]
    · rw [if_neg (fun z => h z.2), upn_ne h]
      exact b i hi
  · rw [setI_ne (by decide)]
    exact c j hj
  · rw [setI_ne (by decide)]
    exact d
theorem tell_no {h : Hp} {N n : Nat} {v hp q : Nat → Nat} (F : FX h) (h14 : h.2.1 14 3 = I N) (X : CG h N v hp q n) (hN : N ≤ 2187) {r : Nat} (hr : r < N) {x : Int32} (hv : v r ≤ 2) (h2 : v r ≠ 2) : P_X1_tellBack 18 (I r) x 14 h = some h := by
  have hve := c_verdictOf F X hN hr
  unfold P_X1_tellBack
  simp (disch := first | assumption | exact FX_setI ‹_› | exact FX_setI (FX_setI ‹_›) | exact FX_setI (FX_setI (FX_setI ‹_›)) | exact FX_setI (FX_setI (FX_setI (FX_setI ‹_›))) | omega) only [gr_0_0, gr_0_1, gr_0_2, gr_0_3, gr_0_4, gr_0_5, gr_0_6, gr_0_7, gr_1_0, gr_1_5, gr_1_7, gr_5_3, gr_5_9, gr_8_3, gr_8_9, gr_11_3, gr_11_9, gr_14_0, gr_14_1, gr_14_2, gr_18_0, gr_18_1, gr_18_2, gr_24_0, gr_24_1, gr_24_2, gr_24_3, gr_24_5, gr_24_6, gr_24_10, gr_24_11, gr_24_12, gr_24_15, al_2, al_3, al_4, al_7, al_10, al_13, al_15, al_16, al_17, al_19, al_20, al_21, al_22, al_23, al_25, al_26, al_27, al_28, al_29, al_30, al_31, al_32, al_33, al_34, as_2, as_3, as_4, as_7, as_10, as_13, as_15, as_16, as_17, as_19, as_20, as_21, as_22, as_23, as_25, as_26, as_27, as_28, as_29, as_30, as_31, as_32, as_33, as_34, gi_0, gi_1, gi_5, gi_8, gi_11, gi_14, gi_18, gi_24, pi_0, pi_1, pi_5, pi_8, pi_11, pi_14, pi_18, pi_24, rc_0, rc_1, rc_5, rc_8, rc_11, rc_14, rc_18, rc_24, ln_2, ln_3, ln_4, ln_7, ln_10, ln_13, ln_15, ln_16, ln_17, ln_19, ln_20, ln_21, ln_22, ln_23, ln_25, ln_26, ln_27, ln_28, ln_29, ln_30, ln_31, ln_32, ln_33, ln_34, ln_6, ln_9, ln_12, ciN, cvN, lt_eq, nn_none, nn_some, setI_1, setI_at, setI_R, upd2_at, I_add, I_addn, Int32.neg_neg, I_mul, I_ltI, I_leI, I_eqI, I_nat, if_true, if_false, reduceIte, reduceIteN, I_difn, bz_0, bz_1, nz_I, I_rem, I_div, I_sub, l4095, l32, l63, l0, l1, l2, l3, l4, l5, l6, l7, l8, l9, l10, l11, l12, l16, l24, l28, l31, l40, l48, l57, l64, l68, l78, l79, l99, l255, l2000, l2187, l1000000000, h14, hve]
theorem tell_lost {h : Hp} {N n : Nat} {v hp q : Nat → Nat} (F : FX h) (h14 : h.2.1 14 3 = I N) (X : CG h N v hp q n) (hN : N ≤ 2187) (hn : n < N) {r : Nat} (hr : r < N) (h2 : v r = 2) : P_X1_tellBack 18 (I r) (I 0) 14 h = some (setI (setI (setI h 19 r (I 1)) 21 n (I r)) 18 3 (I (n + 1))) := by
  have hve := c_verdictOf F X hN hr
  rw [h2] at hve
  have hse := c_settle (x := I 1) F X.2.2.2 (show r < 2187 by omega) (show n < 2187 by omega)
  unfold P_X1_tellBack
  simp (disch := first | assumption | exact FX_setI ‹_› | exact FX_setI (FX_setI ‹_›) | exact FX_setI (FX_setI (FX_setI ‹_›)) | exact FX_setI (FX_setI (FX_setI (FX_setI ‹_›))) | omega) only [gr_0_0, gr_0_1, gr_0_2, gr_0_3, gr_0_4, gr_0_5, gr_0_6, gr_0_7, gr_1_0, gr_1_5, gr_1_7, gr_5_3, gr_5_9, gr_8_3, gr_8_9, gr_11_3, gr_11_9, gr_14_0, gr_14_1, gr_14_2, gr_18_0, gr_18_1, gr_18_2, gr_24_0, gr_24_1, gr_24_2, gr_24_3, gr_24_5, gr_24_6, gr_24_10, gr_24_11, gr_24_12, gr_24_15, al_2, al_3, al_4, al_7, al_10, al_13, al_15, al_16, al_17, al_19, al_20, al_21, al_22, al_23, al_25, al_26, al_27, al_28, al_29, al_30, al_31, al_32, al_33, al_34, as_2, as_3, as_4, as_7, as_10, as_13, as_15, as_16, as_17, as_19, as_20, as_21, as_22, as_23, as_25, as_26, as_27, as_28, as_29, as_30, as_31, as_32, as_33, as_34, gi_0, gi_1, gi_5, gi_8, gi_11, gi_14, gi_18, gi_24, pi_0, pi_1, pi_5, pi_8, pi_11, pi_14, pi_18, pi_24, rc_0, rc_1, rc_5, rc_8, rc_11, rc_14, rc_18, rc_24, ln_2, ln_3, ln_4, ln_7, ln_10, ln_13, ln_15, ln_16, ln_17, ln_19, ln_20, ln_21, ln_22, ln_23, ln_25, ln_26, ln_27, ln_28, ln_29, ln_30, ln_31, ln_32, ln_33, ln_34, ln_6, ln_9, ln_12, ciN, cvN, lt_eq, nn_none, nn_some, setI_1, setI_at, setI_R, upd2_at, I_add, I_addn, Int32.neg_neg, I_mul, I_ltI, I_leI, I_eqI, I_nat, if_true, if_false, reduceIte, reduceIteN, I_difn, bz_0, bz_1, nz_I, I_rem, I_div, I_sub, l4095, l32, l63, l0, l1, l2, l3, l4, l5, l6, l7, l8, l9, l10, l11, l12, l16, l24, l28, l31, l40, l48, l57, l64, l68, l78, l79, l99, l255, l2000, l2187, l1000000000, h14, hve, hse]
theorem tell_won {h : Hp} {N n : Nat} {v hp q : Nat → Nat} (F : FX h) (h14 : h.2.1 14 3 = I N) (X : CG h N v hp q n) (hN : N ≤ 2187) (hn : n < N) {r : Nat} (hr : r < N) (h2 : v r = 2) (h3 : 1 ≤ hp r) (h4 : hp r ≤ 7) :
    P_X1_tellBack 18 (I r) (I 1) 14 h = some (if hp r - 1 = 0 then setI (setI (setI (setI h 20 r (I (hp r - 1))) 19 r (I 0)) 21 n (I r)) 18 3 (I (n + 1)) else setI h 20 r (I (hp r - 1))) := by
  have hve := c_verdictOf F X hN hr
  rw [h2] at hve
  have F1 : FX (setI h 20 r (I (hp r - 1))) := F
  have hh := X.2.1 r hr
  have hq1 : (setI h 20 r (I (hp r - 1))).2.1 18 3 = I n := by rw [setI_ne (by decide)]; exact X.2.2.2
  have hq2 : (setI h 20 r (I (hp r - 1))).2.1 20 r = I (hp r - 1) := by rw [setI_at, if_pos ⟨rfl, rfl⟩]
  have hse := c_settle (x := I 0) F1 hq1 (show r < 2187 by omega) (show n < 2187 by omega)
  unfold P_X1_tellBack
  by_cases h0 : hp r - 1 = 0
  · rw [if_pos h0]
    rw [h0] at hse hq2
    simp (disch := first | assumption | exact FX_setI ‹_› | exact FX_setI (FX_setI ‹_›) | exact FX_setI (FX_setI (FX_setI ‹_›)) | exact FX_setI (FX_setI (FX_setI (FX_setI ‹_›))) | omega) only [gr_0_0, gr_0_1, gr_0_2, gr_0_3, gr_0_4, gr_0_5, gr_0_6, gr_0_7, gr_1_0, gr_1_5, gr_1_7, gr_5_3, gr_5_9, gr_8_3, gr_8_9, gr_11_3, gr_11_9, gr_14_0, gr_14_1, gr_14_2, gr_18_0, gr_18_1, gr_18_2, gr_24_0, gr_24_1, gr_24_2, gr_24_3, gr_24_5, gr_24_6, gr_24_10, gr_24_11, gr_24_12, gr_24_15, al_2, al_3, al_4, al_7, al_10, al_13, al_15, al_16, al_17, al_19, al_20, al_21, al_22, al_23, al_25, al_26, al_27, al_28, al_29, al_30, al_31, al_32, al_33, al_34, as_2, as_3, as_4, as_7, as_10, as_13, as_15, as_16, as_17, as_19, as_20, as_21, as_22, as_23, as_25, as_26, as_27, as_28, as_29, as_30, as_31, as_32, as_33, as_34, gi_0, gi_1, gi_5, gi_8, gi_11, gi_14, gi_18, gi_24, pi_0, pi_1, pi_5, pi_8, pi_11, pi_14, pi_18, pi_24, rc_0, rc_1, rc_5, rc_8, rc_11, rc_14, rc_18, rc_24, ln_2, ln_3, ln_4, ln_7, ln_10, ln_13, ln_15, ln_16, ln_17, ln_19, ln_20, ln_21, ln_22, ln_23, ln_25, ln_26, ln_27, ln_28, ln_29, ln_30, ln_31, ln_32, ln_33, ln_34, ln_6, ln_9, ln_12, ciN, cvN, lt_eq, nn_none, nn_some, setI_1, setI_at, setI_R, upd2_at, I_add, I_addn, Int32.neg_neg, I_mul, I_ltI, I_leI, I_eqI, I_nat, if_true, if_false, reduceIte, reduceIteN, I_difn, bz_0, bz_1, nz_I, I_rem, I_div, I_sub, l4095, l32, l63, l0, l1, l2, l3, l4, l5, l6, l7, l8, l9, l10, l11, l12, l16, l24, l28, l31, l40, l48, l57, l64, l68, l78, l79, l99, l255, l2000, l2187, l1000000000, h14, hve, hh, h0, hq2, hse, and_self]
  · rw [if_neg h0]
    simp (disch := first | assumption | exact FX_setI ‹_› | exact FX_setI (FX_setI ‹_›) | exact FX_setI (FX_setI (FX_setI ‹_›)) | exact FX_setI (FX_setI (FX_setI (FX_setI ‹_›))) | omega) only [gr_0_0, gr_0_1, gr_0_2, gr_0_3, gr_0_4, gr_0_5, gr_0_6, gr_0_7, gr_1_0, gr_1_5, gr_1_7, gr_5_3, gr_5_9, gr_8_3, gr_8_9, gr_11_3, gr_11_9, gr_14_0, gr_14_1, gr_14_2, gr_18_0, gr_18_1, gr_18_2, gr_24_0, gr_24_1, gr_24_2, gr_24_3, gr_24_5, gr_24_6, gr_24_10, gr_24_11, gr_24_12, gr_24_15, al_2, al_3, al_4, al_7, al_10, al_13, al_15, al_16, al_17, al_19, al_20, al_21, al_22, al_23, al_25, al_26, al_27, al_28, al_29, al_30, al_31, al_32, al_33, al_34, as_2, as_3, as_4, as_7, as_10, as_13, as_15, as_16, as_17, as_19, as_20, as_21, as_22, as_23, as_25, as_26, as_27, as_28, as_29, as_30, as_31, as_32, as_33, as_34, gi_0, gi_1, gi_5, gi_8, gi_11, gi_14, gi_18, gi_24, pi_0, pi_1, pi_5, pi_8, pi_11, pi_14, pi_18, pi_24, rc_0, rc_1, rc_5, rc_8, rc_11, rc_14, rc_18, rc_24, ln_2, ln_3, ln_4, ln_7, ln_10, ln_13, ln_15, ln_16, ln_17, ln_19, ln_20, ln_21, ln_22, ln_23, ln_25, ln_26, ln_27, ln_28, ln_29, ln_30, ln_31, ln_32, ln_33, ln_34, ln_6, ln_9, ln_12, ciN, cvN, lt_eq, nn_none, nn_some, setI_1, setI_at, setI_R, upd2_at, I_add, I_addn, Int32.neg_neg, I_mul, I_ltI, I_leI, I_eqI, I_nat, if_true, if_false, reduceIte, reduceIteN, I_difn, bz_0, bz_1, nz_I, I_rem, I_div, I_sub, l4095, l32, l63, l0, l1, l2, l3, l4, l5, l6, l7, l8, l9, l10, l11, l12, l16, l24, l28, l31, l40, l48, l57, l64, l68, l78, l79, l99, l255, l2000, l2187, l1000000000, h14, hve, hh, hq2, and_self]
/-- what holds between two goings told back -/
def GJ (σ : Nat → Nat) (h : Hp) (v hp q : Nat → Nat) (n i p : Nat) : Prop :=
  FX h ∧ CO h 5 σ ∧ LDS h σ (cur σ) ∧ MJ (Gc σ) (nxc σ) (σ 2) (σ 1 ^ σ 2) v ∧ QJ v q n (σ 1 ^ σ 2) ∧ HJ (nxc σ) (σ 2) (σ 1 ^ σ 2) v hp q i p ∧ CG h (σ 1 ^ σ 2) v hp q n ∧ (σ 2 = 0 → v 0 = v0 (Gc σ) 0)
theorem gj_mv {σ : Nat → Nat} {h h' : Hp} {v hp q : Nat → Nat} {n i p : Nat} (a : FxA A4 h h') (J : GJ σ h v hp q n i p) : FX h' ∧ CO h' 5 σ ∧ LDS h' σ (cur σ) :=
  ⟨a.fx J.1, CO_fx a (by simp [A4]) J.2.1, LDS_fx a (by simp [A4]) J.2.2.1⟩
theorem c_tell {σ : Nat → Nat} (W : WF σ) {h : Hp} {v hp q : Nat → Nat} {n i p : Nat} (J : GJ σ h v hp q n i p) (hi : i < n) (hpP : p < σ 2) :
    ∃ h' v' hp' q' n', P_X1_tellBack 18 (I (bfc σ (q i) p)) (I (v (q i))) 14 h = some h' ∧ FxA A4 h h' ∧ GJ σ h' v' hp' q' n' i (p + 1) ∧ n ≤ n' ∧ (∀ j, j ≤ i → q' j = q j) ∧ v' (q i) = v (q i) := by
  have hb := W.rows.1
  have h7 := W.2.2.1
  obtain ⟨F, C, L, M, Q, H, X, Z⟩ := id J
  have B := bkc W
  obtain ⟨hq, hqv⟩ := Q.2.1 i hi
  obtain ⟨hr, hs⟩ := B.1 (q i) p hq hpP
  have h14 := L.2.2.1
  have hP : 0 < σ 2 := by omega
  have hvr := M.1 _ hr
  have hvq := M.1 _ hq
  by_cases h2 : v (bfc σ (q i) p) = 2
  · have hne : q i ≠ bfc σ (q i) p := fun z => hqv (by rw [z]; exact h2)
    have hnN := (qj_set (x := 1) Q hr h2 (by decide)).1
    by_cases h0 : v (q i) = 0
    · have hw : Wo (nxc σ) (σ 2) v (bfc σ (q i) p) 1 := Or.inl ⟨rfl, p, hpP, by rw [hs]; exact h0⟩
      obtain ⟨X', A'⟩ := CG_settle (r := bfc σ (q i) p) (x := 1) X
      obtain ⟨F', C', L'⟩ := gj_mv A' J
      refine ⟨_, upn v (bfc σ (q i) p) 1, hp, upn q n (bfc σ (q i) p), n + 1, by rw [h0]; exact tell_lost F h14 X hb hnN hr h2, A', ⟨F', C', L', (mj_set (nxc_lt W) hP M hr h2 hw (by decide)).2, (qj_set Q hr h2 (by decide)).2, hj_win B hpP hi (by decide) hq h2 H, X', fun z => absurd z (by omega)⟩, by omega, fun j hj => upn_ne (by omega), upn_ne hne⟩
    · have h1 : v (q i) = 1 := by omega
      obtain ⟨l1, l2, l3, l4⟩ := hj_less B hpP hi Q h2 h1 H
      have ht := tell_won F h14 X hb hnN hr h2 l1 (by omega)
      obtain ⟨X1, A1⟩ := CG_hope (r := bfc σ (q i) p) (x := hp (bfc σ (q i) p) - 1) X
      by_cases hz : hp (bfc σ (q i) p) - 1 = 0
      · rw [if_pos hz] at ht
        obtain ⟨X', A'⟩ := CG_settle (r := bfc σ (q i) p) (x := 0) X1
        obtain ⟨F', C', L'⟩ := gj_mv (A1.tr A') J
        refine ⟨_, upn v (bfc σ (q i) p) 0, upn hp (bfc σ (q i) p) (hp (bfc σ (q i) p) - 1), upn q n (bfc σ (q i) p), n + 1, by rw [h1]; exact ht, A1.tr A', ⟨F', C', L', (mj_set (nxc_lt W) hP M hr h2 (l4 hz) (by decide)).2, (qj_set Q hr h2 (by decide)).2, hj_hp (by decide) (hj_win B hpP hi (by decide) hq h2 H), X', fun z => absurd z (by omega)⟩, by omega, fun j hj => upn_ne (by omega), upn_ne hne⟩
      · rw [if_neg hz] at ht
        obtain ⟨F', C', L'⟩ := gj_mv A1 J
        exact ⟨_, v, upn hp (bfc σ (q i) p) (hp (bfc σ (q i) p) - 1), q, n, by rw [h1]; exact ht, A1, ⟨F', C', L', M, Q, l3 hz, X1, Z⟩, Nat.le_refl _, fun j _ => rfl, rfl⟩
  · exact ⟨h, v, hp, q, n, tell_no F h14 X hb hr hvr h2, FxA.rf, ⟨F, C, L, M, Q, hj_pass B hpP H h2, X, Z⟩, Nat.le_refl _, fun j _ => rfl, rfl⟩
theorem c_judged_L36 {σ : Nat → Nat} (W : WF σ) (v10 : Int32) {i : Nat} : ∀ (k p m : Nat) (h : Hp) (v hp q : Nat → Nat) (n : Nat), p + k = σ 2 → k < m → i < n → GJ σ h v hp q n i p →
    ∃ h' v' hp' q' n', (∀ kont, P_X1_judged_L36 m 18 5 14 v10 (I (q i)) (I p) h kont = kont h') ∧ FxA A4 h h' ∧ GJ σ h' v' hp' q' n' i (σ 2) ∧ n ≤ n' := by
  have h7 := W.2.2.1
  have hb := W.rows.1
  intro k
  induction k with
  | zero =>
    intro p m h v hp q n hpk hm hi J
    cases m with
    | zero => omega
    | succ m =>
      have e : p = σ 2 := by omega
      have F := J.1
      have k2 := J.2.1.1.2.2.1
      refine ⟨h, v, hp, q, n, fun kont => ?_, FxA.rf, by rw [← e]; exact J, Nat.le_refl _⟩
      rw [e]
      unfold P_X1_judged_L36
      simp (disch := first | assumption | exact FX_setI ‹_› | exact FX_setI (FX_setI ‹_›) | exact FX_setI (FX_setI (FX_setI ‹_›)) | exact FX_setI (FX_setI (FX_setI (FX_setI ‹_›))) | omega) only [gr_0_0, gr_0_1, gr_0_2, gr_0_3, gr_0_4, gr_0_5, gr_0_6, gr_0_7, gr_1_0, gr_1_5, gr_1_7, gr_5_3, gr_5_9, gr_8_3, gr_8_9, gr_11_3, gr_11_9, gr_14_0, gr_14_1, gr_14_2, gr_18_0, gr_18_1, gr_18_2, gr_24_0, gr_24_1, gr_24_2, gr_24_3, gr_24_5, gr_24_6, gr_24_10, gr_24_11, gr_24_12, gr_24_15, al_2, al_3, al_4, al_7, al_10, al_13, al_15, al_16, al_17, al_19, al_20, al_21, al_22, al_23, al_25, al_26, al_27, al_28, al_29, al_30, al_31, al_32, al_33, al_34, as_2, as_3, as_4, as_7, as_10, as_13, as_15, as_16, as_17, as_19, as_20, as_21, as_22, as_23, as_25, as_26, as_27, as_28, as_29, as_30, as_31, as_32, as_33, as_34, gi_0, gi_1, gi_5, gi_8, gi_11, gi_14, gi_18, gi_24, pi_0, pi_1, pi_5, pi_8, pi_11, pi_14, pi_18, pi_24, rc_0, rc_1, rc_5, rc_8, rc_11, rc_14, rc_18, rc_24, ln_2, ln_3, ln_4, ln_7, ln_10, ln_13, ln_15, ln_16, ln_17, ln_19, ln_20, ln_21, ln_22, ln_23, ln_25, ln_26, ln_27, ln_28, ln_29, ln_30, ln_31, ln_32, ln_33, ln_34, ln_6, ln_9, ln_12, ciN, cvN, lt_eq, nn_none, nn_some, setI_1, setI_at, setI_R, upd2_at, I_add, I_addn, Int32.neg_neg, I_mul, I_ltI, I_leI, I_eqI, I_nat, if_true, if_false, reduceIte, reduceIteN, I_difn, bz_0, bz_1, nz_I, I_rem, I_div, I_sub, l4095, l32, l63, l0, l1, l2, l3, l4, l5, l6, l7, l8, l9, l10, l11, l12, l16, l24, l28, l31, l40, l48, l57, l64, l68, l78, l79, l99, l255, l2000, l2187, l1000000000, k2]
  | succ k ih =>
    intro p m h v hp q n hpk hm hi J
    cases m with
    | zero => omega
    | succ m =>
      have hpP : p < σ 2 := by omega
      have F := J.1
      have k2 := J.2.1.1.2.2.1
      obtain ⟨hq, hqv⟩ := J.2.2.2.2.1.2.1 i hi
      have hbe := c_before W F J.2.2.1 hq hpP
      have hve := c_verdictOf F J.2.2.2.2.2.2.1 hb hq
      obtain ⟨h1, v1, hp1, q1, n1, t1, t2, t3, t4, t5, t6⟩ := c_tell W J hi hpP
      obtain ⟨h2, v2, hp2, q2, n2, r1, r2, r3, r4⟩ := ih (p + 1) m h1 v1 hp1 q1 n1 (by omega) (by omega) (by omega) t3
      refine ⟨h2, v2, hp2, q2, n2, fun kont => ?_, t2.tr r2, r3, by omega⟩
      have r1' := r1 kont
      rw [t5 i (Nat.le_refl _)] at r1'
      unfold P_X1_judged_L36
      simp (disch := first | assumption | exact FX_setI ‹_› | exact FX_setI (FX_setI ‹_›) | exact FX_setI (FX_setI (FX_setI ‹_›)) | exact FX_setI (FX_setI (FX_setI (FX_setI ‹_›))) | omega) only [gr_0_0, gr_0_1, gr_0_2, gr_0_3, gr_0_4, gr_0_5, gr_0_6, gr_0_7, gr_1_0, gr_1_5, gr_1_7, gr_5_3, gr_5_9, gr_8_3, gr_8_9, gr_11_3, gr_11_9, gr_14_0, gr_14_1, gr_14_2, gr_18_0, gr_18_1, gr_18_2, gr_24_0, gr_24_1, gr_24_2, gr_24_3, gr_24_5, gr_24_6, gr_24_10, gr_24_11, gr_24_12, gr_24_15, al_2, al_3, al_4, al_7, al_10, al_13, al_15, al_16, al_17, al_19, al_20, al_21, al_22, al_23, al_25, al_26, al_27, al_28, al_29, al_30, al_31, al_32, al_33, al_34, as_2, as_3, as_4, as_7, as_10, as_13, as_15, as_16, as_17, as_19, as_20, as_21, as_22, as_23, as_25, as_26, as_27, as_28, as_29, as_30, as_31, as_32, as_33, as_34, gi_0, gi_1, gi_5, gi_8, gi_11, gi_14, gi_18, gi_24, pi_0, pi_1, pi_5, pi_8, pi_11, pi_14, pi_18, pi_24, rc_0, rc_1, rc_5, rc_8, rc_11, rc_14, rc_18, rc_24, ln_2, ln_3, ln_4, ln_7, ln_10, ln_13, ln_15, ln_16, ln_17, ln_19, ln_20, ln_21, ln_22, ln_23, ln_25, ln_26, ln_27, ln_28, ln_29, ln_30, ln_31, ln_32, ln_33, ln_34, ln_6, ln_9, ln_12, ciN, cvN, lt_eq, nn_none, nn_some, setI_1, setI_at, setI_R, upd2_at, I_add, I_addn, Int32.neg_neg, I_mul, I_ltI, I_leI, I_eqI, I_nat, if_true, if_false, reduceIte, reduceIteN, I_difn, bz_0, bz_1, nz_I, I_rem, I_div, I_sub, l4095, l32, l63, l0, l1, l2, l3, l4, l5, l6, l7, l8, l9, l10, l11, l12, l16, l24, l28, l31, l40, l48, l57, l64, l68, l78, l79, l99, l255, l2000, l2187, l1000000000, k2, hbe, hve, t1]
      exact r1'
theorem c_judged_L8 {σ : Nat → Nat} (W : WF σ) : ∀ (k i m : Nat) (h : Hp) (v hp q : Nat → Nat) (n : Nat), i + k = σ 1 ^ σ 2 → k < m → i ≤ n → GJ σ h v hp q n i 0 →
    ∃ h' v', P_X1_judged_L8 m 18 5 14 (I i) h = some (I (v' 0), h') ∧ FxA A4 h h' ∧ (0 < σ 2 → Fw (Gc σ) (nxc σ) (σ 2) (σ 1 ^ σ 2) v' ∧ Bel (Gc σ) (nxc σ) (σ 2) (σ 1 ^ σ 2) v') ∧ (σ 2 = 0 → v' 0 = v0 (Gc σ) 0) := by
  have hb := W.rows
  have stop : ∀ (i m : Nat) (h : Hp) (v hp q : Nat → Nat), 0 < m → i ≤ 2187 → GJ σ h v hp q i i 0 →
    ∃ h' v', P_X1_judged_L8 m 18 5 14 (I i) h = some (I (v' 0), h') ∧ FxA A4 h h' ∧ (0 < σ 2 → Fw (Gc σ) (nxc σ) (σ 2) (σ 1 ^ σ 2) v' ∧ Bel (Gc σ) (nxc σ) (σ 2) (σ 1 ^ σ 2) v') ∧ (σ 2 = 0 → v' 0 = v0 (Gc σ) 0) := by
    intro i m h v hp q hm hi J
    cases m with
    | zero => omega
    | succ m =>
      obtain ⟨F, C, L, M, Q, H, X, Z⟩ := id J
      have hve := c_verdictOf F X hb.1 (r := 0) (by omega)
      have hn := X.2.2.2
      refine ⟨h, v, ?_, FxA.rf, fun hP => ⟨hj_end (nxc_lt W) hP M Q H, M.2.1⟩, Z⟩
      unfold P_X1_judged_L8
      simp (disch := first | assumption | exact FX_setI ‹_› | exact FX_setI (FX_setI ‹_›) | exact FX_setI (FX_setI (FX_setI ‹_›)) | exact FX_setI (FX_setI (FX_setI (FX_setI ‹_›))) | omega) only [gr_0_0, gr_0_1, gr_0_2, gr_0_3, gr_0_4, gr_0_5, gr_0_6, gr_0_7, gr_1_0, gr_1_5, gr_1_7, gr_5_3, gr_5_9, gr_8_3, gr_8_9, gr_11_3, gr_11_9, gr_14_0, gr_14_1, gr_14_2, gr_18_0, gr_18_1, gr_18_2, gr_24_0, gr_24_1, gr_24_2, gr_24_3, gr_24_5, gr_24_6, gr_24_10, gr_24_11, gr_24_12, gr_24_15, al_2, al_3, al_4, al_7, al_10, al_13, al_15, al_16, al_17, al_19, al_20, al_21, al_22, al_23, al_25, al_26, al_27, al_28, al_29, al_30, al_31, al_32, al_33, al_34, as_2, as_3, as_4, as_7, as_10, as_13, as_15, as_16, as_17, as_19, as_20, as_21, as_22, as_23, as_25, as_26, as_27, as_28, as_29, as_30, as_31, as_32, as_33, as_34, gi_0, gi_1, gi_5, gi_8, gi_11, gi_14, gi_18, gi_24, pi_0, pi_1, pi_5, pi_8, pi_11, pi_14, pi_18, pi_24, rc_0, rc_1, rc_5, rc_8, rc_11, rc_14, rc_18, rc_24, ln_2, ln_3, ln_4, ln_7, ln_10, ln_13, ln_15, ln_16, ln_17, ln_19, ln_20, ln_21, ln_22, ln_23, ln_25, ln_26, ln_27, ln_28, ln_29, ln_30, ln_31, ln_32, ln_33, ln_34, ln_6, ln_9, ln_12, ciN, cvN, lt_eq, nn_none, nn_some, setI_1, setI_at, setI_R, upd2_at, I_add, I_addn, Int32.neg_neg, I_mul, I_ltI, I_leI, I_eqI, I_nat, if_true, if_false, reduceIte, reduceIteN, I_difn, bz_0, bz_1, nz_I, I_rem, I_div, I_sub, l4095, l32, l63, l0, l1, l2, l3, l4, l5, l6, l7, l8, l9, l10, l11, l12, l16, l24, l28, l31, l40, l48, l57, l64, l68, l78, l79, l99, l255, l2000, l2187, l1000000000, hn, hve]
  intro k
  induction k with
  | zero =>
    intro i m h v hp q n hik hm hin J
    have h1 := J.2.2.2.2.1.1
    have h2 := cnt_le (fun r => !decide (v r = 2)) (σ 1 ^ σ 2)
    have e : n = i := by omega
    subst e
    exact stop n m h v hp q (by omega) (by omega) J
  | succ k ih =>
    intro i m h v hp q n hik hm hin J
    have h1 := J.2.2.2.2.1.1
    have h2 := cnt_le (fun r => !decide (v r = 2)) (σ 1 ^ σ 2)
    by_cases e : n = i
    · subst e
      exact stop n m h v hp q (by omega) (by omega) J
    · have hi : i < n := by omega
      cases m with
      | zero => omega
      | succ m =>
        have F := J.1
        have hn := J.2.2.2.2.2.2.1.2.2.2
        have hqi := J.2.2.2.2.2.2.1.2.2.1 i hi
        obtain ⟨h1, v1, hp1, q1, n1, t1, t2, t3, t4⟩ := c_judged_L36 W (I i) (σ 2) 0 FU h v hp q n (by omega) (by have := W.2.2.1; have := FU_eq; omega) hi J
        have t3' : GJ σ h1 v1 hp1 q1 n1 (i + 1) 0 := ⟨t3.1, t3.2.1, t3.2.2.1, t3.2.2.2.1, t3.2.2.2.2.1, hj_turn t3.2.2.2.2.2.1, t3.2.2.2.2.2.2⟩
        obtain ⟨h2, v2, r1, r2, r3⟩ := ih (i + 1) m h1 v1 hp1 q1 n1 (by omega) (by omega) (by omega) t3'
        refine ⟨h2, v2, ?_, t2.tr r2, r3⟩
        unfold P_X1_judged_L8
        simp (disch := first | assumption | exact FX_setI ‹_› | exact FX_setI (FX_setI ‹_›) | exact FX_setI (FX_setI (FX_setI ‹_›)) | exact FX_setI (FX_setI (FX_setI (FX_setI ‹_›))) | omega) only [gr_0_0, gr_0_1, gr_0_2, gr_0_3, gr_0_4, gr_0_5, gr_0_6, gr_0_7, gr_1_0, gr_1_5, gr_1_7, gr_5_3, gr_5_9, gr_8_3, gr_8_9, gr_11_3, gr_11_9, gr_14_0, gr_14_1, gr_14_2, gr_18_0, gr_18_1, gr_18_2, gr_24_0, gr_24_1, gr_24_2, gr_24_3, gr_24_5, gr_24_6, gr_24_10, gr_24_11, gr_24_12, gr_24_15, al_2, al_3, al_4, al_7, al_10, al_13, al_15, al_16, al_17, al_19, al_20, al_21, al_22, al_23, al_25, al_26, al_27, al_28, al_29, al_30, al_31, al_32, al_33, al_34, as_2, as_3, as_4, as_7, as_10, as_13, as_15, as_16, as_17, as_19, as_20, as_21, as_22, as_23, as_25, as_26, as_27, as_28, as_29, as_30, as_31, as_32, as_33, as_34, gi_0, gi_1, gi_5, gi_8, gi_11, gi_14, gi_18, gi_24, pi_0, pi_1, pi_5, pi_8, pi_11, pi_14, pi_18, pi_24, rc_0, rc_1, rc_5, rc_8, rc_11, rc_14, rc_18, rc_24, ln_2, ln_3, ln_4, ln_7, ln_10, ln_13, ln_15, ln_16, ln_17, ln_19, ln_20, ln_21, ln_22, ln_23, ln_25, ln_26, ln_27, ln_28, ln_29, ln_30, ln_31, ln_32, ln_33, ln_34, ln_6, ln_9, ln_12, ciN, cvN, lt_eq, nn_none, nn_some, setI_1, setI_at, setI_R, upd2_at, I_add, I_addn, Int32.neg_neg, I_mul, I_ltI, I_leI, I_eqI, I_nat, if_true, if_false, reduceIte, reduceIteN, I_difn, bz_0, bz_1, nz_I, I_rem, I_div, I_sub, l4095, l32, l63, l0, l1, l2, l3, l4, l5, l6, l7, l8, l9, l10, l11, l12, l16, l24, l28, l31, l40, l48, l57, l64, l68, l78, l79, l99, l255, l2000, l2187, l1000000000, hn, hqi, t1]
        exact r1
