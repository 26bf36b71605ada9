theorem CO_fx {A : List Nat} {h h' : Hp} {c : Nat} {σ : Nat → Nat} (hA : FxA A h h') (hA2 : ∀ q, q ∈ A → q ≠ c ∧ q ≠ c + 2 ∧ q < 35) (C : CO h c σ) : CO h' c σ := by
  obtain ⟨⟨k0, k1, k2, k4, k5, k6, k7, k8, k10⟩, hl, hg, hr⟩ := C
  have e1 : h'.2.1 c = h.2.1 c := hA.2.2 c (fun z => (hA2 c z).1 rfl)
  have e2 : h'.2.1 (c + 2) = h.2.1 (c + 2) := hA.2.2 (c + 2) (fun z => (hA2 _ z).2.1 rfl)
  unfold CO
  rw [e1, e2, hA.1, hA.2.1]
  refine ⟨⟨k0, k1, k2, k4, k5, k6, k7, k8, k10⟩, hl, fun p hp => ?_, hr⟩
  obtain ⟨q, hq, g1, g2, g3, g4⟩ := hg p hp
  refine ⟨q, hq, ?_⟩
  unfold GO
  rw [hA.1, hA.2.2 q (fun z => by have := (hA2 q z).2.2; omega)]
  exact ⟨g1, g2, g3, g4⟩
/-- the class's digit of a row -/
def dgc (σ : Nat → Nat) (row p : Nat) : Nat := dgt (σ 1) row (σ 2 - 1 - p)
theorem sm_one {f g : Nat → Nat} {q d : Nat} : ∀ n, q < n → g q = f q + d → (∀ i, i < n → i ≠ q → g i = f i) → sm g n = sm f n + d := by
  intro n
  induction n with
  | zero => intro h; omega
  | succ n ih =>
    intro hq h1 h2
    rw [sm_succ, sm_succ]
    by_cases hqn : q = n
    · subst hqn
      rw [h1, sm_congr q (fun i hi => h2 i (by omega) (by omega))]
      omega
    · rw [ih (by omega) h1 (fun i hi hn => h2 i (by omega) hn), h2 n (by omega) (fun z => hqn z.symm)]
      omega
theorem dgt_lo {c row k e : Nat} (hc : 0 < c) (he : e < k) (h : c ^ k ≤ row) : dgt c (row - c ^ k) e = dgt c row e := by
  unfold dgt
  have e1 : c ^ k = c ^ e * (c * c ^ (k - e - 1)) := by
    rw [← Nat.pow_succ', ← Nat.pow_add]
    congr 1
    omega
  obtain ⟨r, rfl⟩ : ∃ r, row = r + c ^ k := ⟨row - c ^ k, by omega⟩
  have hp : 0 < c ^ e := Nat.pos_of_ne_zero (fun z => by have := Nat.pow_eq_zero.mp z; omega)
  rw [Nat.add_sub_cancel]
  conv => rhs; rw [e1]
  rw [Nat.add_mul_div_left _ _ hp, Nat.add_mul_mod_self_left]
theorem dgt_at {c row k : Nat} (hc : 0 < c) (h : c ^ k ≤ row) (h2 : row < c ^ (k + 1)) : dgt c row k = dgt c (row - c ^ k) k + 1 := by
  unfold dgt
  obtain ⟨r, rfl⟩ : ∃ r, row = r + c ^ k := ⟨row - c ^ k, by omega⟩
  have hp : 0 < c ^ k := Nat.pos_of_ne_zero (fun z => by have := Nat.pow_eq_zero.mp z; omega)
  rw [Nat.add_sub_cancel, Nat.add_div_right _ hp]
  have h3 : (r + c ^ k) / c ^ k < c := (Nat.div_lt_iff_lt_mul hp).mpr (by rw [Nat.pow_succ, Nat.mul_comm] at h2; exact h2)
  rw [Nat.add_div_right _ hp] at h3
  have h3 : r / c ^ k + 1 < c := h3
  rw [Nat.mod_eq_of_lt h3, Nat.mod_eq_of_lt (by omega)]
theorem dgt_hi {c row k e : Nat} (hc : 0 < c) (he : k ≤ e) (h : row < c ^ k) : dgt c row e = 0 := by
  unfold dgt
  have h1 : c ^ k ≤ c ^ e := Nat.pow_le_pow_right hc he
  rw [Nat.div_eq_of_lt (by omega)]
  exact Nat.zero_mod c
/-- one going more of person H-1-k -/
theorem wy_step {σ f : Nat → Nat} (W : WF σ) {k row : Nat} (hk : k < σ 2) (h : σ 1 ^ k ≤ row) (h2 : row < σ 1 ^ (k + 1)) (i : Nat) :
    tw (σ 1) (wy σ f (dgc σ (row - σ 1 ^ k)) (σ 2)) (tb1 σ (σ 2 - 1 - k)) i = wy σ f (dgc σ row) (σ 2) i := by
  have hcol := W.col
  have hc : 0 < σ 1 := by omega
  unfold tw wy
  rw [Nat.mod_add_mod, Nat.add_assoc]
  congr 2
  symm
  apply sm_one (q := σ 2 - 1 - k) (σ 2) (by omega)
  · unfold dgc
    rw [show σ 2 - 1 - (σ 2 - 1 - k) = k by omega, dgt_at hc h h2]
    cases tb1 σ (σ 2 - 1 - k) i <;> simp
  · intro p hp hne
    unfold dgc
    by_cases he : σ 2 - 1 - p < k
    · rw [dgt_lo hc he h]
    · have he2 : k + 1 ≤ σ 2 - 1 - p := by omega
      rw [dgt_hi hc he2 h2, dgt_hi hc he2 (by omega)]
/-- what lead leaves: the first so many rows -/
def LE (h : Hp) (σ f : Nat → Nat) (n : Nat) : Prop := ∀ row, row < n → h.2.1 15 row = I (enc (wy σ f (dgc σ row) (σ 2)))
def LH (h : Hp) (σ : Nat → Nat) : Prop := h.2.1 14 4 = I (σ 2) ∧ h.2.1 14 5 = I (σ 1)
theorem c_goOnceMore_L {σ f : Nat → Nat} (W : WF σ) {k : Nat} (hk : k < σ 2) : ∀ (m r n : Nat) (h : Hp), FX h → r + m = σ 1 ^ (k + 1) → σ 1 ^ k ≤ r → m < n → LH h σ → LE h σ f r →
    ∃ h', P_X4_goOnceMore_L15 n 14 (I (tm σ (σ 2 - 1 - k))) (I (σ 1 ^ k)) (I (σ 1 ^ (k + 1))) (I r) h = some h' ∧ FxA [14, 15] h h' ∧ LH h' σ ∧ LE h' σ f (σ 1 ^ (k + 1)) ∧ h'.2.1 14 3 = I (σ 1 ^ (k + 1)) := by
  have hcol := W.col
  have hb : σ 1 ^ (k + 1) ≤ 2187 := Nat.le_trans (Nat.pow_le_pow_right (by omega) (by omega)) W.rows.1
  intro m
  induction m with
  | zero =>
    intro r n h F hr hr2 hn L1 L2
    cases n with
    | zero => omega
    | succ n =>
      refine ⟨setI h 14 3 (I (σ 1 ^ (k + 1))), ?_, FxA.set (by simp), ?_, ?_, ?_⟩
      · unfold P_X4_goOnceMore_L15
        simp (disch := first | assumption | exact FX_setI ‹_› | exact FX_setI (FX_setI ‹_›) | exact FX_setI (FX_setI (FX_setI ‹_›)) | exact FX_setI (FX_setI (FX_setI (FX_setI ‹_›))) | omega) only [gr_0_0, gr_0_1, gr_0_2, gr_0_3, gr_0_4, gr_0_5, gr_0_6, gr_0_7, gr_1_0, gr_1_5, gr_1_7, gr_5_3, gr_5_9, gr_8_3, gr_8_9, gr_11_3, gr_11_9, gr_14_0, gr_14_1, gr_14_2, gr_18_0, gr_18_1, gr_18_2, gr_24_0, gr_24_1, gr_24_2, gr_24_3, gr_24_5, gr_24_6, gr_24_10, gr_24_11, gr_24_12, gr_24_15, al_2, al_3, al_4, al_7, al_10, al_13, al_15, al_16, al_17, al_19, al_20, al_21, al_22, al_23, al_25, al_26, al_27, al_28, al_29, al_30, al_31, al_32, al_33, al_34, as_2, as_3, as_4, as_7, as_10, as_13, as_15, as_16, as_17, as_19, as_20, as_21, as_22, as_23, as_25, as_26, as_27, as_28, as_29, as_30, as_31, as_32, as_33, as_34, gi_0, gi_1, gi_5, gi_8, gi_11, gi_14, gi_18, gi_24, pi_0, pi_1, pi_5, pi_8, pi_11, pi_14, pi_18, pi_24, rc_0, rc_1, rc_5, rc_8, rc_11, rc_14, rc_18, rc_24, ln_2, ln_3, ln_4, ln_7, ln_10, ln_13, ln_15, ln_16, ln_17, ln_19, ln_20, ln_21, ln_22, ln_23, ln_25, ln_26, ln_27, ln_28, ln_29, ln_30, ln_31, ln_32, ln_33, ln_34, ln_6, ln_9, ln_12, ci_some, cv_some, lt_eq, nn_none, nn_some, setI_1, setI_at, setI_R, upd2_at, I_add, I_addn, Int32.neg_neg, I_mul, I_ltI, I_leI, I_eqI, I_nat, if_true, if_false, reduceIte, reduceIteN, I_difn, bz_0, bz_1, nz_I, I_rem, I_div, I_sub, l4095, l32, l63, l0, l1, l2, l3, l4, l5, l6, l7, l8, l9, l10, l11, l12, l16, l24, l28, l31, l40, l48, l57, l64, l68, l78, l79, l99, l255, l2000, l2187, l1000000000]
      · exact ⟨by rw [setI_at, if_neg (by omega)]; exact L1.1, by rw [setI_at, if_neg (by omega)]; exact L1.2⟩
      · intro row hrow
        rw [setI_at, if_neg (by omega)]
        exact L2 row (by omega)
      · rw [setI_at, if_pos ⟨rfl, rfl⟩]
  | succ m ih =>
    intro r n h F hr hr2 hn L1 L2
    cases n with
    | zero => omega
    | succ n =>
      have hrl : r < 2187 := by omega
      have hnew : LE (setI h 15 r (I (enc (tw (σ 1) (wy σ f (dgc σ (r - σ 1 ^ k)) (σ 2)) (tb1 σ (σ 2 - 1 - k)))))) σ f (r + 1) := by
        intro row hrow
        rw [setI_at]
        by_cases hrr : row = r
        · subst hrr
          rw [if_pos ⟨rfl, rfl⟩, enc_congr (fun i _ => wy_step W hk hr2 (by omega) i)]
        · rw [if_neg (fun z => hrr z.2)]
          exact L2 row (by omega)
      obtain ⟨h', e1, e2, e3, e4, e5⟩ := ih (r + 1) n _ (FX_setI F) (by omega) (by omega) (by omega) ⟨by rw [setI_at, if_neg (by omega)]; exact L1.1, by rw [setI_at, if_neg (by omega)]; exact L1.2⟩ hnew
      refine ⟨h', ?_, (FxA.set (by simp)).tr e2, e3, e4, e5⟩
      have hpk : 0 < σ 1 ^ k := Nat.pos_of_ne_zero (fun z => by have := Nat.pow_eq_zero.mp z; omega)
      have hprev := L2 (r - σ 1 ^ k) (by omega)
      unfold P_X4_goOnceMore_L15
      simp (disch := first | assumption | exact FX_setI ‹_› | exact FX_setI (FX_setI ‹_›) | exact FX_setI (FX_setI (FX_setI ‹_›)) | exact FX_setI (FX_setI (FX_setI (FX_setI ‹_›))) | omega) only [gr_0_0, gr_0_1, gr_0_2, gr_0_3, gr_0_4, gr_0_5, gr_0_6, gr_0_7, gr_1_0, gr_1_5, gr_1_7, gr_5_3, gr_5_9, gr_8_3, gr_8_9, gr_11_3, gr_11_9, gr_14_0, gr_14_1, gr_14_2, gr_18_0, gr_18_1, gr_18_2, gr_24_0, gr_24_1, gr_24_2, gr_24_3, gr_24_5, gr_24_6, gr_24_10, gr_24_11, gr_24_12, gr_24_15, al_2, al_3, al_4, al_7, al_10, al_13, al_15, al_16, al_17, al_19, al_20, al_21, al_22, al_23, al_25, al_26, al_27, al_28, al_29, al_30, al_31, al_32, al_33, al_34, as_2, as_3, as_4, as_7, as_10, as_13, as_15, as_16, as_17, as_19, as_20, as_21, as_22, as_23, as_25, as_26, as_27, as_28, as_29, as_30, as_31, as_32, as_33, as_34, gi_0, gi_1, gi_5, gi_8, gi_11, gi_14, gi_18, gi_24, pi_0, pi_1, pi_5, pi_8, pi_11, pi_14, pi_18, pi_24, rc_0, rc_1, rc_5, rc_8, rc_11, rc_14, rc_18, rc_24, ln_2, ln_3, ln_4, ln_7, ln_10, ln_13, ln_15, ln_16, ln_17, ln_19, ln_20, ln_21, ln_22, ln_23, ln_25, ln_26, ln_27, ln_28, ln_29, ln_30, ln_31, ln_32, ln_33, ln_34, ln_6, ln_9, ln_12, ci_some, cv_some, lt_eq, nn_none, nn_some, setI_1, setI_at, setI_R, upd2_at, I_add, I_addn, Int32.neg_neg, I_mul, I_ltI, I_leI, I_eqI, I_nat, if_true, if_false, reduceIte, reduceIteN, I_difn, bz_0, bz_1, nz_I, I_rem, I_div, I_sub, l4095, l32, l63, l0, l1, l2, l3, l4, l5, l6, l7, l8, l9, l10, l11, l12, l16, l24, l28, l31, l40, l48, l57, l64, l68, l78, l79, l99, l255, l2000, l2187, l1000000000, hprev, L1.2, c_turned W (fun i _ => wy_lt W f (dgc σ (r - σ 1 ^ k)) (σ 2) i)]
      exact e1
theorem c_goOnceMore {σ f : Nat → Nat} {h : Hp} (W : WF σ) (F : FX h) {k : Nat} (hk : k < σ 2) (L1 : LH h σ) (L2 : LE h σ f (σ 1 ^ k)) (L3 : h.2.1 14 3 = I (σ 1 ^ k)) :
    ∃ h', P_X4_goOnceMore 14 (I (tm σ (σ 2 - 1 - k))) h = some h' ∧ FxA [14, 15] h h' ∧ LH h' σ ∧ LE h' σ f (σ 1 ^ (k + 1)) ∧ h'.2.1 14 3 = I (σ 1 ^ (k + 1)) := by
  have hcol := W.col
  have hb : σ 1 ^ (k + 1) ≤ 2187 := Nat.le_trans (Nat.pow_le_pow_right (by omega) (by omega)) W.rows.1
  have hle : σ 1 ^ k ≤ σ 1 ^ (k + 1) := Nat.pow_le_pow_right (by omega) (by omega)
  obtain ⟨h', e1, e2⟩ := c_goOnceMore_L W hk (σ 1 ^ (k + 1) - σ 1 ^ k) (σ 1 ^ k) FU h F (by omega) (Nat.le_refl _) (by have := FU_eq; omega) L1 L2
  refine ⟨h', ?_, e2⟩
  unfold P_X4_goOnceMore
  simp (disch := first | assumption | exact FX_setI ‹_› | exact FX_setI (FX_setI ‹_›) | exact FX_setI (FX_setI (FX_setI ‹_›)) | exact FX_setI (FX_setI (FX_setI (FX_setI ‹_›))) | omega) only [gr_0_0, gr_0_1, gr_0_2, gr_0_3, gr_0_4, gr_0_5, gr_0_6, gr_0_7, gr_1_0, gr_1_5, gr_1_7, gr_5_3, gr_5_9, gr_8_3, gr_8_9, gr_11_3, gr_11_9, gr_14_0, gr_14_1, gr_14_2, gr_18_0, gr_18_1, gr_18_2, gr_24_0, gr_24_1, gr_24_2, gr_24_3, gr_24_5, gr_24_6, gr_24_10, gr_24_11, gr_24_12, gr_24_15, al_2, al_3, al_4, al_7, al_10, al_13, al_15, al_16, al_17, al_19, al_20, al_21, al_22, al_23, al_25, al_26, al_27, al_28, al_29, al_30, al_31, al_32, al_33, al_34, as_2, as_3, as_4, as_7, as_10, as_13, as_15, as_16, as_17, as_19, as_20, as_21, as_22, as_23, as_25, as_26, as_27, as_28, as_29, as_30, as_31, as_32, as_33, as_34, gi_0, gi_1, gi_5, gi_8, gi_11, gi_14, gi_18, gi_24, pi_0, pi_1, pi_5, pi_8, pi_11, pi_14, pi_18, pi_24, rc_0, rc_1, rc_5, rc_8, rc_11, rc_14, rc_18, rc_24, ln_2, ln_3, ln_4, ln_7, ln_10, ln_13, ln_15, ln_16, ln_17, ln_19, ln_20, ln_21, ln_22, ln_23, ln_25, ln_26, ln_27, ln_28, ln_29, ln_30, ln_31, ln_32, ln_33, ln_34, ln_6, ln_9, ln_12, ci_some, cv_some, lt_eq, nn_none, nn_some, setI_1, setI_at, setI_R, upd2_at, I_add, I_addn, Int32.neg_neg, I_mul, I_ltI, I_leI, I_eqI, I_nat, if_true, if_false, reduceIte, reduceIteN, I_difn, bz_0, bz_1, nz_I, I_rem, I_div, I_sub, l4095, l32, l63, l0, l1, l2, l3, l4, l5, l6, l7, l8, l9, l10, l11, l12, l16, l24, l28, l31, l40, l48, l57, l64, l68, l78, l79, l99, l255, l2000, l2187, l1000000000, L3, L1.2]
  rw [← Nat.pow_succ]
  exact e1
def LDS (h : Hp) (σ f : Nat → Nat) : Prop := LH h σ ∧ LE h σ f (σ 1 ^ σ 2) ∧ h.2.1 14 3 = I (σ 1 ^ σ 2) ∧ ∀ p, p < σ 2 → h.2.1 16 p = I (σ 1 ^ (σ 2 - 1 - p))
theorem c_lead_L {σ f : Nat → Nat} (W : WF σ) : ∀ (d n : Nat) (h : Hp), d ≤ σ 2 → d < n → FX h → CO h 5 σ → LH h σ → LE h σ f (σ 1 ^ (σ 2 - d)) → h.2.1 14 3 = I (σ 1 ^ (σ 2 - d)) → (∀ p, d ≤ p → p < σ 2 → h.2.1 16 p = I (σ 1 ^ (σ 2 - 1 - p))) →
    ∃ h', P_X4_lead_L35 n 14 5 (I d + -I 1) h = some h' ∧ FxA [14, 15, 16] h h' ∧ LDS h' σ f := by
  have h7 := W.2.2.1
  intro d
  induction d with
  | zero =>
    intro n h hd hn F C L1 L2 L3 L4
    cases n with
    | zero => omega
    | succ n =>
      refine ⟨h, ?_, FxA.rf, L1, L2, L3, fun p hp => L4 p (Nat.zero_le _) hp⟩
      unfold P_X4_lead_L35
      rw [if_pos (by decide)]
  | succ d ih =>
    intro n h hd hn F C L1 L2 L3 L4
    cases n with
    | zero => omega
    | succ n =>
      have hd2 : d < σ 2 := by omega
      have hk : σ 2 - (d + 1) < σ 2 := by omega
      have C1 : CO (setI h 16 d (I (σ 1 ^ (σ 2 - (d + 1))))) 5 σ := CO_fx (FxA.set (A := [16]) (by simp)) (by simp) C
      have ht := c_turnsOf (h := setI h 16 d (I (σ 1 ^ (σ 2 - (d + 1))))) (FX_setI F) W C1 hd2
      obtain ⟨h1, e1, e2, e3, e4, e5⟩ := c_goOnceMore (f := f) (h := setI h 16 d (I (σ 1 ^ (σ 2 - (d + 1))))) W (FX_setI F) hk ⟨by rw [setI_at, if_neg (by omega)]; exact L1.1, by rw [setI_at, if_neg (by omega)]; exact L1.2⟩ (fun row hrow => by rw [setI_at, if_neg (by omega)]; exact L2 row hrow) (by rw [setI_at, if_neg (by omega)]; exact L3)
      rw [show σ 2 - 1 - (σ 2 - (d + 1)) = d by omega] at e1
      rw [show σ 2 - (d + 1) + 1 = σ 2 - d by omega] at e4 e5
      have F1 := e2.fx (FX_setI F)
      obtain ⟨h2, r1, r2, r3⟩ := ih n h1 (by omega) (by omega) F1 (CO_fx e2 (by simp) C1) e3 e4 e5 (fun p hp1 hp2 => by
        rw [e2.2.2 16 (by decide), setI_at]
        by_cases hpd : p = d
        · rw [if_pos ⟨rfl, hpd⟩, hpd, show σ 2 - (d + 1) = σ 2 - 1 - d by omega]
        · rw [if_neg (fun z => hpd z.2)]
          exact L4 p (by omega) hp2)
      refine ⟨h2, ?_, ((FxA.set (A := [14, 15, 16]) (by simp)).tr (e2.up (by simp))).tr r2, r3⟩
      unfold P_X4_lead_L35
      have e0 : I (d + 1) + -I 1 = I d := by rw [I_addn (by omega), Nat.add_sub_cancel]
      rw [e0]
      simp (disch := first | assumption | exact FX_setI ‹_› | exact FX_setI (FX_setI ‹_›) | exact FX_setI (FX_setI (FX_setI ‹_›)) | exact FX_setI (FX_setI (FX_setI (FX_setI ‹_›))) | omega) only [gr_0_0, gr_0_1, gr_0_2, gr_0_3, gr_0_4, gr_0_5, gr_0_6, gr_0_7, gr_1_0, gr_1_5, gr_1_7, gr_5_3, gr_5_9, gr_8_3, gr_8_9, gr_11_3, gr_11_9, gr_14_0, gr_14_1, gr_14_2, gr_18_0, gr_18_1, gr_18_2, gr_24_0, gr_24_1, gr_24_2, gr_24_3, gr_24_5, gr_24_6, gr_24_10, gr_24_11, gr_24_12, gr_24_15, al_2, al_3, al_4, al_7, al_10, al_13, al_15, al_16, al_17, al_19, al_20, al_21, al_22, al_23, al_25, al_26, al_27, al_28, al_29, al_30, al_31, al_32, al_33, al_34, as_2, as_3, as_4, as_7, as_10, as_13, as_15, as_16, as_17, as_19, as_20, as_21, as_22, as_23, as_25, as_26, as_27, as_28, as_29, as_30, as_31, as_32, as_33, as_34, gi_0, gi_1, gi_5, gi_8, gi_11, gi_14, gi_18, gi_24, pi_0, pi_1, pi_5, pi_8, pi_11, pi_14, pi_18, pi_24, rc_0, rc_1, rc_5, rc_8, rc_11, rc_14, rc_18, rc_24, ln_2, ln_3, ln_4, ln_7, ln_10, ln_13, ln_15, ln_16, ln_17, ln_19, ln_20, ln_21, ln_22, ln_23, ln_25, ln_26, ln_27, ln_28, ln_29, ln_30, ln_31, ln_32, ln_33, ln_34, ln_6, ln_9, ln_12, ci_some, cv_some, lt_eq, nn_none, nn_some, setI_1, setI_at, setI_R, upd2_at, I_add, I_addn, Int32.neg_neg, I_mul, I_ltI, I_leI, I_eqI, I_nat, if_true, if_false, reduceIte, reduceIteN, I_difn, bz_0, bz_1, nz_I, I_rem, I_div, I_sub, l4095, l32, l63, l0, l1, l2, l3, l4, l5, l6, l7, l8, l9, l10, l11, l12, l16, l24, l28, l31, l40, l48, l57, l64, l68, l78, l79, l99, l255, l2000, l2187, l1000000000, L3, ht, e1]
      exact r1
theorem c_lead {σ f : Nat → Nat} {h : Hp} (W : WF σ) (F : FX h) (C : CO h 5 σ) (hf : ∀ i, i < 12 → f i < σ 1) : ∃ h', P_X4_lead 14 5 (I (enc f)) h = some h' ∧ FxA [14, 15, 16] h h' ∧ LDS h' σ f := by
  obtain ⟨⟨k0, k1, k2, k4, k5, k6, k7, k8, k10⟩, -⟩ := id C
  have h7 := W.2.2.1
  have hcol := W.col
  have A1 : FxA [14, 15, 16] h (setI (setI (setI (setI h 14 4 (I (σ 2))) 14 5 (I (σ 1))) 15 0 (I (enc f))) 14 3 (I 1)) :=
    (((FxA.set (by simp)).tr (FxA.set (by simp))).tr (FxA.set (by simp))).tr (FxA.set (by simp))
  obtain ⟨h', e1, e2, e3⟩ := c_lead_L (f := f) W (σ 2) FU (setI (setI (setI (setI h 14 4 (I (σ 2))) 14 5 (I (σ 1))) 15 0 (I (enc f))) 14 3 (I 1)) (Nat.le_refl _) (by have := FU_eq; omega) F (CO_fx A1 (by simp) C)
    ⟨by simp [setI_at], by simp [setI_at]⟩
    (by
      rw [Nat.sub_self, Nat.pow_zero]
      intro row hrow
      have : row = 0 := by omega
      subst this
      rw [setI_at, if_neg (by omega), setI_at, if_pos ⟨rfl, rfl⟩]
      congr 1
      apply enc_congr
      intro i hi
      unfold wy
      rw [sm_congr (g := fun _ => 0) _ (fun p hp => by
        unfold dgc
        rw [dgt_hi (c := σ 1) (k := 0) (by omega) (Nat.zero_le _) (by simp)]
        simp)]
      have hz : ∀ n, sm (fun _ => 0) n = 0 := by
        intro n
        induction n with
        | zero => rfl
        | succ n ih => rw [sm_succ, ih]
      rw [hz, Nat.add_zero, Nat.mod_eq_of_lt (hf i hi)])
    (by rw [Nat.sub_self, Nat.pow_zero]; simp [setI_at])
    (fun p hp1 hp2 => by omega)
  refine ⟨h', ?_, A1.tr e2, e3⟩
  unfold P_X4_lead
  simp (disch := first | assumption | exact FX_setI ‹_› | exact FX_setI (FX_setI ‹_›) | exact FX_setI (FX_setI (FX_setI ‹_›)) | exact FX_setI (FX_setI (FX_setI (FX_setI ‹_›))) | omega) only [gr_0_0, gr_0_1, gr_0_2, gr_0_3, gr_0_4, gr_0_5, gr_0_6, gr_0_7, gr_1_0, gr_1_5, gr_1_7, gr_5_3, gr_5_9, gr_8_3, gr_8_9, gr_11_3, gr_11_9, gr_14_0, gr_14_1, gr_14_2, gr_18_0, gr_18_1, gr_18_2, gr_24_0, gr_24_1, gr_24_2, gr_24_3, gr_24_5, gr_24_6, gr_24_10, gr_24_11, gr_24_12, gr_24_15, al_2, al_3, al_4, al_7, al_10, al_13, al_15, al_16, al_17, al_19, al_20, al_21, al_22, al_23, al_25, al_26, al_27, al_28, al_29, al_30, al_31, al_32, al_33, al_34, as_2, as_3, as_4, as_7, as_10, as_13, as_15, as_16, as_17, as_19, as_20, as_21, as_22, as_23, as_25, as_26, as_27, as_28, as_29, as_30, as_31, as_32, as_33, as_34, gi_0, gi_1, gi_5, gi_8, gi_11, gi_14, gi_18, gi_24, pi_0, pi_1, pi_5, pi_8, pi_11, pi_14, pi_18, pi_24, rc_0, rc_1, rc_5, rc_8, rc_11, rc_14, rc_18, rc_24, ln_2, ln_3, ln_4, ln_7, ln_10, ln_13, ln_15, ln_16, ln_17, ln_19, ln_20, ln_21, ln_22, ln_23, ln_25, ln_26, ln_27, ln_28, ln_29, ln_30, ln_31, ln_32, ln_33, ln_34, ln_6, ln_9, ln_12, ci_some, cv_some, lt_eq, nn_none, nn_some, setI_1, setI_at, setI_R, upd2_at, I_add, I_addn, Int32.neg_neg, I_mul, I_ltI, I_leI, I_eqI, I_nat, if_true, if_false, reduceIte, reduceIteN, I_difn, bz_0, bz_1, nz_I, I_rem, I_div, I_sub, l4095, l32, l63, l0, l1, l2, l3, l4, l5, l6, l7, l8, l9, l10, l11, l12, l16, l24, l28, l31, l40, l48, l57, l64, l68, l78, l79, l99, l255, l2000, l2187, l1000000000, k2, k1, Int32.sub_eq_add_neg]
  exact e1
