/-! way -/
/-- the ways told by an array from 1 on -/
def AR (h : Hp) (p : Nat) (f : Nat → Nat) (n : Nat) : Prop := ∀ m, 1 ≤ m → m ≤ n → h.2.1 p m = I (f m)
/-- b: by divisors; who counts when d goes -/
def wP (b : Bool) (d m : Nat) : Bool := if b then decide (d % m = 0) else decide (m % d = 0)
def wds (b : Bool) (n k : Nat) : Nat := if b then n - k else k + 1
/-- one number taken back out of all others -/
def up1 (c : Nat) (b : Bool) (d : Nat) (f : Nat → Nat) : Nat → Nat := fun m => if m ≠ d ∧ wP b d m = true then (f m + c - f d) % c else f m
def up2 (c : Nat) (b : Bool) (d : Nat) (f : Nat → Nat) : Nat → Nat := fun m => if wP b d m = true then (f m + c - f d) % c else f m
def ak (c : Nat) (b : Bool) (n : Nat) (f : Nat → Nat) : Nat → Nat → Nat
  | 0 => f
  | k + 1 => up1 c b (wds b n k) (ak c b n f k)
def wk (c : Nat) (b : Bool) (n : Nat) (f : Nat → Nat) : Nat → Nat → Nat
  | 0 => f
  | k + 1 => up2 c b (wds b n k) (wk c b n f k)
theorem up1_lt {c : Nat} {b : Bool} {d : Nat} {f : Nat → Nat} (hc : 0 < c) (hf : ∀ m, f m < c) (m : Nat) : up1 c b d f m < c := by
  unfold up1
  split
  · exact Nat.mod_lt _ hc
  · exact hf m
theorem up2_lt {c : Nat} {b : Bool} {d : Nat} {f : Nat → Nat} (hc : 0 < c) (hf : ∀ m, f m < c) (m : Nat) : up2 c b d f m < c := by
  unfold up2
  split
  · exact Nat.mod_lt _ hc
  · exact hf m
theorem ak_lt {c : Nat} {b : Bool} {n : Nat} {f : Nat → Nat} (hc : 0 < c) (hf : ∀ m, f m < c) : ∀ k m, ak c b n f k m < c
  | 0, m => hf m
  | k + 1, m => up1_lt hc (ak_lt hc hf k) m
theorem wk_lt {c : Nat} {b : Bool} {n : Nat} {f : Nat → Nat} (hc : 0 < c) (hf : ∀ m, f m < c) : ∀ k m, wk c b n f k m < c
  | 0, m => hf m
  | k + 1, m => up2_lt hc (wk_lt hc hf k) m
/-- is m among the first k -/
def wdn (b : Bool) (n k m : Nat) : Prop := if b then n - k < m else m ≤ k
theorem ak_wk {c : Nat} {b : Bool} {n : Nat} {f : Nat → Nat} : ∀ k, k ≤ n → ∀ m, 1 ≤ m → m ≤ n → ¬ wdn b n k m → wk c b n f k m = ak c b n f k m
  | 0, _, m, _, _, _ => rfl
  | k + 1, hk, m, h1, h2, hd => by
    have hdn : ¬ wdn b n k m := by
      unfold wdn at hd ⊢
      cases b
      · simp only [Bool.false_eq_true, if_false] at hd ⊢; omega
      · simp only [if_true] at hd ⊢; omega
    have hne : m ≠ wds b n k := by
      unfold wdn at hd
      unfold wds
      cases b
      · simp only [Bool.false_eq_true, if_false] at hd ⊢; omega
      · simp only [if_true] at hd ⊢; omega
    have hd1 : 1 ≤ wds b n k ∧ wds b n k ≤ n ∧ ¬ wdn b n k (wds b n k) := by
      unfold wdn wds
      cases b
      · simp only [Bool.false_eq_true, if_false]; omega
      · simp only [if_true]; omega
    have e1 := ak_wk (c := c) (b := b) (f := f) k (by omega) m h1 h2 hdn
    have e2 := ak_wk (c := c) (b := b) (f := f) k (by omega) (wds b n k) hd1.1 hd1.2.1 hd1.2.2
    show up2 c b (wds b n k) (wk c b n f k) m = up1 c b (wds b n k) (ak c b n f k) m
    unfold up1 up2
    rw [e1, e2]
    by_cases hp : wP b (wds b n k) m = true
    · rw [if_pos hp, if_pos ⟨hne, hp⟩]
    · rw [if_neg hp, if_neg (fun z => hp z.2)]
theorem wdn_no {b : Bool} {n k m : Nat} (hk : k < n) (h1 : 1 ≤ m) (hd : wdn b n k m) : wP b (wds b n k) m = false := by
  unfold wdn at hd
  unfold wP wds
  cases b
  · simp only [Bool.false_eq_true, if_false] at hd ⊢
    rw [decide_eq_false_iff_not, Nat.mod_eq_of_lt (by omega)]
    omega
  · simp only [if_true] at hd ⊢
    rw [decide_eq_false_iff_not, Nat.mod_eq_of_lt (by omega)]
    omega
theorem ak_done {c : Nat} {b : Bool} {n : Nat} {f : Nat → Nat} {k m : Nat} (hk : k < n) (h1 : 1 ≤ m) (hd : wdn b n k m ∨ m = wds b n k) : ak c b n f (k + 1) m = ak c b n f k m := by
  show up1 c b (wds b n k) (ak c b n f k) m = _
  unfold up1
  rcases hd with hd | hd
  · rw [wdn_no hk h1 hd, if_neg (fun z => by cases z.2)]
  · rw [if_neg (fun z => z.1 hd)]
-- ===== the class =====
theorem c_takeBack {h : Hp} {σ : Nat → Nat} (W : WF σ) (F : FX h) (k1 : h.2.1 5 1 = I (σ 1)) {a b va vb : Nat} (ha : a ≤ 12) (hb : b ≤ 12) (e1 : h.2.1 22 a = I va) (e2 : h.2.1 22 b = I vb) (h1 : va < σ 1) (h2 : vb < σ 1) : P_X5_takeBack 0 (I a) (I b) h = some (setI h 22 a (I ((va + σ 1 - vb) % σ 1))) := by
  have hcol := W.col
  have hr := c_remainder (h := h) (a := va + σ 1 - vb) (b := σ 1) (by omega) (by omega) (by omega)
  unfold P_X5_takeBack
  simp (disch := first | assumption | exact FX_setI ‹_› | exact FX_setI (FX_setI ‹_›) | exact FX_setI (FX_setI (FX_setI ‹_›)) | exact FX_setI (FX_setI (FX_setI (FX_setI ‹_›))) | omega) only [gr_0_0, gr_0_1, gr_0_2, gr_0_3, gr_0_4, gr_0_5, gr_0_6, gr_0_7, gr_1_0, gr_1_5, gr_1_7, gr_5_3, gr_5_9, gr_8_3, gr_8_9, gr_11_3, gr_11_9, gr_14_0, gr_14_1, gr_14_2, gr_18_0, gr_18_1, gr_18_2, gr_24_0, gr_24_1, gr_24_2, gr_24_3, gr_24_5, gr_24_6, gr_24_10, gr_24_11, gr_24_12, gr_24_15, al_2, al_3, al_4, al_7, al_10, al_13, al_15, al_16, al_17, al_19, al_20, al_21, al_22, al_23, al_25, al_26, al_27, al_28, al_29, al_30, al_31, al_32, al_33, al_34, as_2, as_3, as_4, as_7, as_10, as_13, as_15, as_16, as_17, as_19, as_20, as_21, as_22, as_23, as_25, as_26, as_27, as_28, as_29, as_30, as_31, as_32, as_33, as_34, gi_0, gi_1, gi_5, gi_8, gi_11, gi_14, gi_18, gi_24, pi_0, pi_1, pi_5, pi_8, pi_11, pi_14, pi_18, pi_24, rc_0, rc_1, rc_5, rc_8, rc_11, rc_14, rc_18, rc_24, ln_2, ln_3, ln_4, ln_7, ln_10, ln_13, ln_15, ln_16, ln_17, ln_19, ln_20, ln_21, ln_22, ln_23, ln_25, ln_26, ln_27, ln_28, ln_29, ln_30, ln_31, ln_32, ln_33, ln_34, ln_6, ln_9, ln_12, ciN, cvN, lt_eq, nn_none, nn_some, setI_1, setI_at, setI_R, upd2_at, I_add, I_addn, Int32.neg_neg, I_mul, I_ltI, I_leI, I_eqI, I_nat, if_true, if_false, reduceIte, reduceIteN, I_difn, bz_0, bz_1, nz_I, I_rem, I_div, I_sub, l4095, l32, l63, l0, l1, l2, l3, l4, l5, l6, l7, l8, l9, l10, l11, l12, l16, l24, l28, l31, l40, l48, l57, l64, l68, l78, l79, l99, l255, l2000, l2187, l1000000000, e1, e2, k1, hr]
theorem c_spread_L {σ : Nat → Nat} (W : WF σ) {s : Nat} (hs : s < 2147483648) : ∀ (k j n : Nat) (h : Hp), j + k = σ 0 → k < n → FX h → CO h 5 σ → AR h 22 (fun m => dgt (σ 1) s (m - 1)) j →
    ∃ h', P_X5_spread_L13 n 0 (I (s / σ 1 ^ j)) (I (σ 1)) (I (j + 1)) h = some h' ∧ FxA [22] h h' ∧ AR h' 22 (fun m => dgt (σ 1) s (m - 1)) (σ 0) := by
  have hn0 := W.1
  have hcol := W.col
  intro k
  induction k with
  | zero =>
    intro j n h hj hn F C A
    cases n with
    | zero => omega
    | succ n =>
      have : j = σ 0 := by omega
      subst this
      have k0 := C.1.1
      refine ⟨h, ?_, FxA.rf, A⟩
      unfold P_X5_spread_L13
      simp (disch := first | assumption | exact FX_setI ‹_› | exact FX_setI (FX_setI ‹_›) | exact FX_setI (FX_setI (FX_setI ‹_›)) | exact FX_setI (FX_setI (FX_setI (FX_setI ‹_›))) | omega) only [gr_0_0, gr_0_1, gr_0_2, gr_0_3, gr_0_4, gr_0_5, gr_0_6, gr_0_7, gr_1_0, gr_1_5, gr_1_7, gr_5_3, gr_5_9, gr_8_3, gr_8_9, gr_11_3, gr_11_9, gr_14_0, gr_14_1, gr_14_2, gr_18_0, gr_18_1, gr_18_2, gr_24_0, gr_24_1, gr_24_2, gr_24_3, gr_24_5, gr_24_6, gr_24_10, gr_24_11, gr_24_12, gr_24_15, al_2, al_3, al_4, al_7, al_10, al_13, al_15, al_16, al_17, al_19, al_20, al_21, al_22, al_23, al_25, al_26, al_27, al_28, al_29, al_30, al_31, al_32, al_33, al_34, as_2, as_3, as_4, as_7, as_10, as_13, as_15, as_16, as_17, as_19, as_20, as_21, as_22, as_23, as_25, as_26, as_27, as_28, as_29, as_30, as_31, as_32, as_33, as_34, gi_0, gi_1, gi_5, gi_8, gi_11, gi_14, gi_18, gi_24, pi_0, pi_1, pi_5, pi_8, pi_11, pi_14, pi_18, pi_24, rc_0, rc_1, rc_5, rc_8, rc_11, rc_14, rc_18, rc_24, ln_2, ln_3, ln_4, ln_7, ln_10, ln_13, ln_15, ln_16, ln_17, ln_19, ln_20, ln_21, ln_22, ln_23, ln_25, ln_26, ln_27, ln_28, ln_29, ln_30, ln_31, ln_32, ln_33, ln_34, ln_6, ln_9, ln_12, ciN, cvN, lt_eq, nn_none, nn_some, setI_1, setI_at, setI_R, upd2_at, I_add, I_addn, Int32.neg_neg, I_mul, I_ltI, I_leI, I_eqI, I_nat, if_true, if_false, reduceIte, reduceIteN, I_difn, bz_0, bz_1, nz_I, I_rem, I_div, I_sub, l4095, l32, l63, l0, l1, l2, l3, l4, l5, l6, l7, l8, l9, l10, l11, l12, l16, l24, l28, l31, l40, l48, l57, l64, l68, l78, l79, l99, l255, l2000, l2187, l1000000000, k0]
  | succ k ih =>
    intro j n h hj hn F C A
    cases n with
    | zero => omega
    | succ n =>
      have k0 := C.1.1
      have hq : s / σ 1 ^ j < 2147483648 := Nat.lt_of_le_of_lt (Nat.div_le_self _ _) hs
      have hre := c_remainder (h := h) (a := s / σ 1 ^ j) (b := σ 1) hq (by omega) (by omega)
      have e : s / σ 1 ^ j % σ 1 = dgt (σ 1) s j := rfl
      rw [e] at hre
      have hqu := c_quotient (h := setI h 22 (j + 1) (I (dgt (σ 1) s j))) (a := s / σ 1 ^ j) (b := σ 1) hq (by omega)
      have e2 : s / σ 1 ^ j / σ 1 = s / σ 1 ^ (j + 1) := by rw [Nat.div_div_eq_div_mul, Nat.pow_succ]
      rw [e2] at hqu
      have A1 : FxA [22] h (setI h 22 (j + 1) (I (dgt (σ 1) s j))) := FxA.set (by simp)
      obtain ⟨h', r1, r2, r3⟩ := ih (j + 1) n (setI h 22 (j + 1) (I (dgt (σ 1) s j))) (by omega) (by omega) (FX_setI F) (CO_fx A1 (by simp) C) (fun m h1 h2 => by
        rw [setI_at]
        by_cases hm : m = j + 1
        · rw [if_pos ⟨rfl, hm⟩, hm]; rfl
        · rw [if_neg (fun z => hm z.2)]
          exact A m h1 (by omega))
      refine ⟨h', ?_, A1.tr r2, r3⟩
      unfold P_X5_spread_L13
      simp (disch := first | assumption | exact FX_setI ‹_› | exact FX_setI (FX_setI ‹_›) | exact FX_setI (FX_setI (FX_setI ‹_›)) | exact FX_setI (FX_setI (FX_setI (FX_setI ‹_›))) | omega) only [gr_0_0, gr_0_1, gr_0_2, gr_0_3, gr_0_4, gr_0_5, gr_0_6, gr_0_7, gr_1_0, gr_1_5, gr_1_7, gr_5_3, gr_5_9, gr_8_3, gr_8_9, gr_11_3, gr_11_9, gr_14_0, gr_14_1, gr_14_2, gr_18_0, gr_18_1, gr_18_2, gr_24_0, gr_24_1, gr_24_2, gr_24_3, gr_24_5, gr_24_6, gr_24_10, gr_24_11, gr_24_12, gr_24_15, al_2, al_3, al_4, al_7, al_10, al_13, al_15, al_16, al_17, al_19, al_20, al_21, al_22, al_23, al_25, al_26, al_27, al_28, al_29, al_30, al_31, al_32, al_33, al_34, as_2, as_3, as_4, as_7, as_10, as_13, as_15, as_16, as_17, as_19, as_20, as_21, as_22, as_23, as_25, as_26, as_27, as_28, as_29, as_30, as_31, as_32, as_33, as_34, gi_0, gi_1, gi_5, gi_8, gi_11, gi_14, gi_18, gi_24, pi_0, pi_1, pi_5, pi_8, pi_11, pi_14, pi_18, pi_24, rc_0, rc_1, rc_5, rc_8, rc_11, rc_14, rc_18, rc_24, ln_2, ln_3, ln_4, ln_7, ln_10, ln_13, ln_15, ln_16, ln_17, ln_19, ln_20, ln_21, ln_22, ln_23, ln_25, ln_26, ln_27, ln_28, ln_29, ln_30, ln_31, ln_32, ln_33, ln_34, ln_6, ln_9, ln_12, ciN, cvN, lt_eq, nn_none, nn_some, setI_1, setI_at, setI_R, upd2_at, I_add, I_addn, Int32.neg_neg, I_mul, I_ltI, I_leI, I_eqI, I_nat, if_true, if_false, reduceIte, reduceIteN, I_difn, bz_0, bz_1, nz_I, I_rem, I_div, I_sub, l4095, l32, l63, l0, l1, l2, l3, l4, l5, l6, l7, l8, l9, l10, l11, l12, l16, l24, l28, l31, l40, l48, l57, l64, l68, l78, l79, l99, l255, l2000, l2187, l1000000000, k0, hre, hqu]
      exact r1
theorem c_spread {σ : Nat → Nat} {h : Hp} (W : WF σ) (F : FX h) (C : CO h 5 σ) {s : Nat} (hs : s < 2147483648) : ∃ h', P_X5_spread 0 (I s) h = some h' ∧ FxA [22] h h' ∧ AR h' 22 (fun m => dgt (σ 1) s (m - 1)) (σ 0) := by
  obtain ⟨h', r1, r2, r3⟩ := c_spread_L W hs (σ 0) 0 FU h (by omega) (by have := FU_eq; have := W.1; omega) F C (fun m h1 h2 => by omega)
  rw [Nat.pow_zero, Nat.div_one] at r1
  have k1 := C.1.2.1
  refine ⟨h', ?_, r2, r3⟩
  unfold P_X5_spread
  simp (disch := first | assumption | exact FX_setI ‹_› | exact FX_setI (FX_setI ‹_›) | exact FX_setI (FX_setI (FX_setI ‹_›)) | exact FX_setI (FX_setI (FX_setI (FX_setI ‹_›))) | omega) only [gr_0_0, gr_0_1, gr_0_2, gr_0_3, gr_0_4, gr_0_5, gr_0_6, gr_0_7, gr_1_0, gr_1_5, gr_1_7, gr_5_3, gr_5_9, gr_8_3, gr_8_9, gr_11_3, gr_11_9, gr_14_0, gr_14_1, gr_14_2, gr_18_0, gr_18_1, gr_18_2, gr_24_0, gr_24_1, gr_24_2, gr_24_3, gr_24_5, gr_24_6, gr_24_10, gr_24_11, gr_24_12, gr_24_15, al_2, al_3, al_4, al_7, al_10, al_13, al_15, al_16, al_17, al_19, al_20, al_21, al_22, al_23, al_25, al_26, al_27, al_28, al_29, al_30, al_31, al_32, al_33, al_34, as_2, as_3, as_4, as_7, as_10, as_13, as_15, as_16, as_17, as_19, as_20, as_21, as_22, as_23, as_25, as_26, as_27, as_28, as_29, as_30, as_31, as_32, as_33, as_34, gi_0, gi_1, gi_5, gi_8, gi_11, gi_14, gi_18, gi_24, pi_0, pi_1, pi_5, pi_8, pi_11, pi_14, pi_18, pi_24, rc_0, rc_1, rc_5, rc_8, rc_11, rc_14, rc_18, rc_24, ln_2, ln_3, ln_4, ln_7, ln_10, ln_13, ln_15, ln_16, ln_17, ln_19, ln_20, ln_21, ln_22, ln_23, ln_25, ln_26, ln_27, ln_28, ln_29, ln_30, ln_31, ln_32, ln_33, ln_34, ln_6, ln_9, ln_12, ciN, cvN, lt_eq, nn_none, nn_some, setI_1, setI_at, setI_R, upd2_at, I_add, I_addn, Int32.neg_neg, I_mul, I_ltI, I_leI, I_eqI, I_nat, if_true, if_false, reduceIte, reduceIteN, I_difn, bz_0, bz_1, nz_I, I_rem, I_div, I_sub, l4095, l32, l63, l0, l1, l2, l3, l4, l5, l6, l7, l8, l9, l10, l11, l12, l16, l24, l28, l31, l40, l48, l57, l64, l68, l78, l79, l99, l255, l2000, l2187, l1000000000, k1]
  exact r1
theorem c_mul_L17 {σ f : Nat → Nat} (W : WF σ) (hf : ∀ m, f m < σ 1) {d : Nat} (d1 : 1 ≤ d) (d2 : d ≤ σ 0) (kont : Hp → Option Hp) : ∀ (k m n : Nat) (h : Hp), σ 0 < m + k → k < n → m % d = 0 → d < m → m ≤ 24 → FX h → CO h 5 σ → AR h 22 (fun j => if j < m then up1 (σ 1) false d f j else f j) (σ 0) →
    ∃ h', P_X5_solveByMultiples_L17 n 0 (I d) (I m) h kont = kont h' ∧ FxA [22] h h' ∧ AR h' 22 (up1 (σ 1) false d f) (σ 0) := by
  have hn0 := W.1
  have hcol := W.col
  intro k
  induction k with
  | zero =>
    intro m n h hm hn hmd hdm hm24 F C A
    cases n with
    | zero => omega
    | succ n =>
      have A' : ∀ j, 1 ≤ j → j ≤ σ 0 → h.2.1 22 j = I (if j < m then up1 (σ 1) false d f j else f j) := A
      have k0 := C.1.1
      refine ⟨h, ?_, FxA.rf, fun j h1 h2 => ?_⟩
      · unfold P_X5_solveByMultiples_L17
        simp (disch := first | assumption | exact FX_setI ‹_› | exact FX_setI (FX_setI ‹_›) | exact FX_setI (FX_setI (FX_setI ‹_›)) | exact FX_setI (FX_setI (FX_setI (FX_setI ‹_›))) | omega) only [gr_0_0, gr_0_1, gr_0_2, gr_0_3, gr_0_4, gr_0_5, gr_0_6, gr_0_7, gr_1_0, gr_1_5, gr_1_7, gr_5_3, gr_5_9, gr_8_3, gr_8_9, gr_11_3, gr_11_9, gr_14_0, gr_14_1, gr_14_2, gr_18_0, gr_18_1, gr_18_2, gr_24_0, gr_24_1, gr_24_2, gr_24_3, gr_24_5, gr_24_6, gr_24_10, gr_24_11, gr_24_12, gr_24_15, al_2, al_3, al_4, al_7, al_10, al_13, al_15, al_16, al_17, al_19, al_20, al_21, al_22, al_23, al_25, al_26, al_27, al_28, al_29, al_30, al_31, al_32, al_33, al_34, as_2, as_3, as_4, as_7, as_10, as_13, as_15, as_16, as_17, as_19, as_20, as_21, as_22, as_23, as_25, as_26, as_27, as_28, as_29, as_30, as_31, as_32, as_33, as_34, gi_0, gi_1, gi_5, gi_8, gi_11, gi_14, gi_18, gi_24, pi_0, pi_1, pi_5, pi_8, pi_11, pi_14, pi_18, pi_24, rc_0, rc_1, rc_5, rc_8, rc_11, rc_14, rc_18, rc_24, ln_2, ln_3, ln_4, ln_7, ln_10, ln_13, ln_15, ln_16, ln_17, ln_19, ln_20, ln_21, ln_22, ln_23, ln_25, ln_26, ln_27, ln_28, ln_29, ln_30, ln_31, ln_32, ln_33, ln_34, ln_6, ln_9, ln_12, ciN, cvN, lt_eq, nn_none, nn_some, setI_1, setI_at, setI_R, upd2_at, I_add, I_addn, Int32.neg_neg, I_mul, I_ltI, I_leI, I_eqI, I_nat, if_true, if_false, reduceIte, reduceIteN, I_difn, bz_0, bz_1, nz_I, I_rem, I_div, I_sub, l4095, l32, l63, l0, l1, l2, l3, l4, l5, l6, l7, l8, l9, l10, l11, l12, l16, l24, l28, l31, l40, l48, l57, l64, l68, l78, l79, l99, l255, l2000, l2187, l1000000000, k0]
      · have := A' j h1 h2
        rw [if_pos (show j < m by omega)] at this
        exact this
  | succ k ih =>
    intro m n h hm hn hmd hdm hm24 F C A
    cases n with
    | zero => omega
    | succ n =>
      have A' : ∀ j, 1 ≤ j → j ≤ σ 0 → h.2.1 22 j = I (if j < m then up1 (σ 1) false d f j else f j) := A
      have k0 := C.1.1
      have k1 := C.1.2.1
      by_cases hmn : σ 0 < m
      · refine ⟨h, ?_, FxA.rf, fun j h1 h2 => ?_⟩
        · unfold P_X5_solveByMultiples_L17
          simp (disch := first | assumption | exact FX_setI ‹_› | exact FX_setI (FX_setI ‹_›) | exact FX_setI (FX_setI (FX_setI ‹_›)) | exact FX_setI (FX_setI (FX_setI (FX_setI ‹_›))) | omega) only [gr_0_0, gr_0_1, gr_0_2, gr_0_3, gr_0_4, gr_0_5, gr_0_6, gr_0_7, gr_1_0, gr_1_5, gr_1_7, gr_5_3, gr_5_9, gr_8_3, gr_8_9, gr_11_3, gr_11_9, gr_14_0, gr_14_1, gr_14_2, gr_18_0, gr_18_1, gr_18_2, gr_24_0, gr_24_1, gr_24_2, gr_24_3, gr_24_5, gr_24_6, gr_24_10, gr_24_11, gr_24_12, gr_24_15, al_2, al_3, al_4, al_7, al_10, al_13, al_15, al_16, al_17, al_19, al_20, al_21, al_22, al_23, al_25, al_26, al_27, al_28, al_29, al_30, al_31, al_32, al_33, al_34, as_2, as_3, as_4, as_7, as_10, as_13, as_15, as_16, as_17, as_19, as_20, as_21, as_22, as_23, as_25, as_26, as_27, as_28, as_29, as_30, as_31, as_32, as_33, as_34, gi_0, gi_1, gi_5, gi_8, gi_11, gi_14, gi_18, gi_24, pi_0, pi_1, pi_5, pi_8, pi_11, pi_14, pi_18, pi_24, rc_0, rc_1, rc_5, rc_8, rc_11, rc_14, rc_18, rc_24, ln_2, ln_3, ln_4, ln_7, ln_10, ln_13, ln_15, ln_16, ln_17, ln_19, ln_20, ln_21, ln_22, ln_23, ln_25, ln_26, ln_27, ln_28, ln_29, ln_30, ln_31, ln_32, ln_33, ln_34, ln_6, ln_9, ln_12, ciN, cvN, lt_eq, nn_none, nn_some, setI_1, setI_at, setI_R, upd2_at, I_add, I_addn, Int32.neg_neg, I_mul, I_ltI, I_leI, I_eqI, I_nat, if_true, if_false, reduceIte, reduceIteN, I_difn, bz_0, bz_1, nz_I, I_rem, I_div, I_sub, l4095, l32, l63, l0, l1, l2, l3, l4, l5, l6, l7, l8, l9, l10, l11, l12, l16, l24, l28, l31, l40, l48, l57, l64, l68, l78, l79, l99, l255, l2000, l2187, l1000000000, k0]
        · have := A' j h1 h2
          rw [if_pos (show j < m by omega)] at this
          exact this
      · have em := A' m (by omega) (by omega)
        have ed := A' d d1 d2
        rw [if_neg (Nat.lt_irrefl m)] at em
        have ud : up1 (σ 1) false d f d = f d := by unfold up1; rw [if_neg (fun z => z.1 rfl)]
        rw [if_pos hdm, ud] at ed
        have hta := c_takeBack W F k1 (show m ≤ 12 by omega) (show d ≤ 12 by omega) em ed (hf m) (hf d)
        have um : up1 (σ 1) false d f m = (f m + σ 1 - f d) % σ 1 := by unfold up1; rw [if_pos ⟨by omega, by unfold wP; simp [hmd]⟩]
        have A1 : FxA [22] h (setI h 22 m (I ((f m + σ 1 - f d) % σ 1))) := FxA.set (by simp)
        obtain ⟨h', r1, r2, r3⟩ := ih (m + d) n (setI h 22 m (I ((f m + σ 1 - f d) % σ 1))) (by omega) (by omega) (by rw [Nat.add_mod_right]; exact hmd) (by omega) (by omega) (FX_setI F) (CO_fx A1 (by simp) C) (fun j h1 h2 => by
          show _ = I (if j < m + d then up1 (σ 1) false d f j else f j)
          rw [setI_at]
          by_cases hj : j = m
          · rw [if_pos ⟨rfl, hj⟩, if_pos (by omega), hj, um]
          · rw [if_neg (fun z => hj z.2), A' j h1 h2]
            by_cases hjm : j < m
            · rw [if_pos hjm, if_pos (by omega)]
            · rw [if_neg hjm]
              by_cases hjd : j < m + d
              · rw [if_pos hjd]
                have : wP false d j = false := by
                  unfold wP
                  simp only [Bool.false_eq_true, if_false]
                  rw [decide_eq_false_iff_not]
                  intro z
                  have e1 : (j - m) % d = 0 := by
                    have := (Nat.mod_add_mod m d (j - m)).symm
                    rw [show m + (j - m) = j by omega, z, hmd, Nat.zero_add] at this
                    exact this.symm
                  rw [Nat.mod_eq_of_lt (by omega)] at e1
                  omega
                unfold up1
                rw [this, if_neg (fun z => by cases z.2)]
              · rw [if_neg hjd])
        refine ⟨h', ?_, A1.tr r2, r3⟩
        unfold P_X5_solveByMultiples_L17
        simp (disch := first | assumption | exact FX_setI ‹_› | exact FX_setI (FX_setI ‹_›) | exact FX_setI (FX_setI (FX_setI ‹_›)) | exact FX_setI (FX_setI (FX_setI (FX_setI ‹_›))) | omega) only [gr_0_0, gr_0_1, gr_0_2, gr_0_3, gr_0_4, gr_0_5, gr_0_6, gr_0_7, gr_1_0, gr_1_5, gr_1_7, gr_5_3, gr_5_9, gr_8_3, gr_8_9, gr_11_3, gr_11_9, gr_14_0, gr_14_1, gr_14_2, gr_18_0, gr_18_1, gr_18_2, gr_24_0, gr_24_1, gr_24_2, gr_24_3, gr_24_5, gr_24_6, gr_24_10, gr_24_11, gr_24_12, gr_24_15, al_2, al_3, al_4, al_7, al_10, al_13, al_15, al_16, al_17, al_19, al_20, al_21, al_22, al_23, al_25, al_26, al_27, al_28, al_29, al_30, al_31, al_32, al_33, al_34, as_2, as_3, as_4, as_7, as_10, as_13, as_15, as_16, as_17, as_19, as_20, as_21, as_22, as_23, as_25, as_26, as_27, as_28, as_29, as_30, as_31, as_32, as_33, as_34, gi_0, gi_1, gi_5, gi_8, gi_11, gi_14, gi_18, gi_24, pi_0, pi_1, pi_5, pi_8, pi_11, pi_14, pi_18, pi_24, rc_0, rc_1, rc_5, rc_8, rc_11, rc_14, rc_18, rc_24, ln_2, ln_3, ln_4, ln_7, ln_10, ln_13, ln_15, ln_16, ln_17, ln_19, ln_20, ln_21, ln_22, ln_23, ln_25, ln_26, ln_27, ln_28, ln_29, ln_30, ln_31, ln_32, ln_33, ln_34, ln_6, ln_9, ln_12, ciN, cvN, lt_eq, nn_none, nn_some, setI_1, setI_at, setI_R, upd2_at, I_add, I_addn, Int32.neg_neg, I_mul, I_ltI, I_leI, I_eqI, I_nat, if_true, if_false, reduceIte, reduceIteN, I_difn, bz_0, bz_1, nz_I, I_rem, I_div, I_sub, l4095, l32, l63, l0, l1, l2, l3, l4, l5, l6, l7, l8, l9, l10, l11, l12, l16, l24, l28, l31, l40, l48, l57, l64, l68, l78, l79, l99, l255, l2000, l2187, l1000000000, k0, hta]
        exact r1
theorem c_mul_L2 {σ f : Nat → Nat} (W : WF σ) (hf : ∀ m, f m < σ 1) : ∀ (k j n : Nat) (h : Hp), j + k = σ 0 → k < n → FX h → CO h 5 σ → AR h 22 (ak (σ 1) false (σ 0) f j) (σ 0) →
    ∃ h', P_X5_solveByMultiples_L2 n 0 (I (j + 1)) h = some h' ∧ FxA [22] h h' ∧ AR h' 22 (ak (σ 1) false (σ 0) f (σ 0)) (σ 0) := by
  have hn0 := W.1
  have hcol := W.col
  intro k
  induction k with
  | zero =>
    intro j n h hj hn F C A
    cases n with
    | zero => omega
    | succ n =>
      have k0 := C.1.1
      have : j = σ 0 := by omega
      subst this
      refine ⟨h, ?_, FxA.rf, A⟩
      unfold P_X5_solveByMultiples_L2
      simp (disch := first | assumption | exact FX_setI ‹_› | exact FX_setI (FX_setI ‹_›) | exact FX_setI (FX_setI (FX_setI ‹_›)) | exact FX_setI (FX_setI (FX_setI (FX_setI ‹_›))) | omega) only [gr_0_0, gr_0_1, gr_0_2, gr_0_3, gr_0_4, gr_0_5, gr_0_6, gr_0_7, gr_1_0, gr_1_5, gr_1_7, gr_5_3, gr_5_9, gr_8_3, gr_8_9, gr_11_3, gr_11_9, gr_14_0, gr_14_1, gr_14_2, gr_18_0, gr_18_1, gr_18_2, gr_24_0, gr_24_1, gr_24_2, gr_24_3, gr_24_5, gr_24_6, gr_24_10, gr_24_11, gr_24_12, gr_24_15, al_2, al_3, al_4, al_7, al_10, al_13, al_15, al_16, al_17, al_19, al_20, al_21, al_22, al_23, al_25, al_26, al_27, al_28, al_29, al_30, al_31, al_32, al_33, al_34, as_2, as_3, as_4, as_7, as_10, as_13, as_15, as_16, as_17, as_19, as_20, as_21, as_22, as_23, as_25, as_26, as_27, as_28, as_29, as_30, as_31, as_32, as_33, as_34, gi_0, gi_1, gi_5, gi_8, gi_11, gi_14, gi_18, gi_24, pi_0, pi_1, pi_5, pi_8, pi_11, pi_14, pi_18, pi_24, rc_0, rc_1, rc_5, rc_8, rc_11, rc_14, rc_18, rc_24, ln_2, ln_3, ln_4, ln_7, ln_10, ln_13, ln_15, ln_16, ln_17, ln_19, ln_20, ln_21, ln_22, ln_23, ln_25, ln_26, ln_27, ln_28, ln_29, ln_30, ln_31, ln_32, ln_33, ln_34, ln_6, ln_9, ln_12, ciN, cvN, lt_eq, nn_none, nn_some, setI_1, setI_at, setI_R, upd2_at, I_add, I_addn, Int32.neg_neg, I_mul, I_ltI, I_leI, I_eqI, I_nat, if_true, if_false, reduceIte, reduceIteN, I_difn, bz_0, bz_1, nz_I, I_rem, I_div, I_sub, l4095, l32, l63, l0, l1, l2, l3, l4, l5, l6, l7, l8, l9, l10, l11, l12, l16, l24, l28, l31, l40, l48, l57, l64, l68, l78, l79, l99, l255, l2000, l2187, l1000000000, k0]
  | succ k ih =>
    intro j n h hj hn F C A
    cases n with
    | zero => omega
    | succ n =>
      have k0 := C.1.1
      obtain ⟨h1, a1, a2, a3⟩ := c_mul_L17 W (f := ak (σ 1) false (σ 0) f j) (ak_lt (by omega) hf j) (d := j + 1) (by omega) (by omega) (fun h4 => P_X5_solveByMultiples_L2 n 0 (I (j + 1 + 1)) h4) 12 (2 * (j + 1)) FU h (by omega) (by have := FU_eq; omega) (Nat.mul_mod_left _ _) (by omega) (by omega) F C (fun m h1 h2 => by
        show _ = I (if m < 2 * (j + 1) then up1 (σ 1) false (j + 1) (ak (σ 1) false (σ 0) f j) m else ak (σ 1) false (σ 0) f j m)
        rw [A m h1 h2]
        by_cases hm : m < 2 * (j + 1)
        · rw [if_pos hm]
          have : ¬ (m ≠ j + 1 ∧ wP false (j + 1) m = true) := by
            intro z
            have z2 := z.2
            unfold wP at z2
            simp only [Bool.false_eq_true, if_false, decide_eq_true_eq] at z2
            have := z.1
            rcases Nat.lt_or_ge m (j + 1) with q | q
            · rw [Nat.mod_eq_of_lt q] at z2; omega
            · rw [Nat.mod_eq_sub_mod q, Nat.mod_eq_of_lt (by omega)] at z2; omega
          unfold up1
          rw [if_neg this]
        · rw [if_neg hm])
      obtain ⟨h', r1, r2, r3⟩ := ih (j + 1) n h1 (by omega) (by omega) (a2.fx F) (CO_fx a2 (by simp) C) a3
      refine ⟨h', ?_, a2.tr r2, r3⟩
      unfold P_X5_solveByMultiples_L2
      simp (disch := first | assumption | exact FX_setI ‹_› | exact FX_setI (FX_setI ‹_›) | exact FX_setI (FX_setI (FX_setI ‹_›)) | exact FX_setI (FX_setI (FX_setI (FX_setI ‹_›))) | omega) only [gr_0_0, gr_0_1, gr_0_2, gr_0_3, gr_0_4, gr_0_5, gr_0_6, gr_0_7, gr_1_0, gr_1_5, gr_1_7, gr_5_3, gr_5_9, gr_8_3, gr_8_9, gr_11_3, gr_11_9, gr_14_0, gr_14_1, gr_14_2, gr_18_0, gr_18_1, gr_18_2, gr_24_0, gr_24_1, gr_24_2, gr_24_3, gr_24_5, gr_24_6, gr_24_10, gr_24_11, gr_24_12, gr_24_15, al_2, al_3, al_4, al_7, al_10, al_13, al_15, al_16, al_17, al_19, al_20, al_21, al_22, al_23, al_25, al_26, al_27, al_28, al_29, al_30, al_31, al_32, al_33, al_34, as_2, as_3, as_4, as_7, as_10, as_13, as_15, as_16, as_17, as_19, as_20, as_21, as_22, as_23, as_25, as_26, as_27, as_28, as_29, as_30, as_31, as_32, as_33, as_34, gi_0, gi_1, gi_5, gi_8, gi_11, gi_14, gi_18, gi_24, pi_0, pi_1, pi_5, pi_8, pi_11, pi_14, pi_18, pi_24, rc_0, rc_1, rc_5, rc_8, rc_11, rc_14, rc_18, rc_24, ln_2, ln_3, ln_4, ln_7, ln_10, ln_13, ln_15, ln_16, ln_17, ln_19, ln_20, ln_21, ln_22, ln_23, ln_25, ln_26, ln_27, ln_28, ln_29, ln_30, ln_31, ln_32, ln_33, ln_34, ln_6, ln_9, ln_12, ciN, cvN, lt_eq, nn_none, nn_some, setI_1, setI_at, setI_R, upd2_at, I_add, I_addn, Int32.neg_neg, I_mul, I_ltI, I_leI, I_eqI, I_nat, if_true, if_false, reduceIte, reduceIteN, I_difn, bz_0, bz_1, nz_I, I_rem, I_div, I_sub, l4095, l32, l63, l0, l1, l2, l3, l4, l5, l6, l7, l8, l9, l10, l11, l12, l16, l24, l28, l31, l40, l48, l57, l64, l68, l78, l79, l99, l255, l2000, l2187, l1000000000, k0]
      exact Eq.trans a1 r1
theorem c_div2_L15 {σ f : Nat → Nat} (W : WF σ) (hf : ∀ m, f m < σ 1) {d : Nat} (d1 : 1 ≤ d) (d2 : d ≤ σ 0) (kont : Hp → Option Hp) : ∀ (k m n : Nat) (h : Hp), m + k = d → k < n → 1 ≤ m → FX h → CO h 5 σ → AR h 22 (fun j => if j < m then up1 (σ 1) true d f j else f j) (σ 0) →
    ∃ h', P_X5_solveByDivisors_L15 n 0 (I d) (I m) h kont = kont h' ∧ FxA [22] h h' ∧ AR h' 22 (up1 (σ 1) true d f) (σ 0) := by
  have hn0 := W.1
  have hcol := W.col
  intro k
  induction k with
  | zero =>
    intro m n h hm hn hm1 F C A
    cases n with
    | zero => omega
    | succ n =>
      have A' : ∀ j, 1 ≤ j → j ≤ σ 0 → h.2.1 22 j = I (if j < m then up1 (σ 1) true d f j else f j) := A
      have : m = d := by omega
      subst this
      refine ⟨h, ?_, FxA.rf, fun j h1 h2 => ?_⟩
      · unfold P_X5_solveByDivisors_L15
        simp (disch := first | assumption | exact FX_setI ‹_› | exact FX_setI (FX_setI ‹_›) | exact FX_setI (FX_setI (FX_setI ‹_›)) | exact FX_setI (FX_setI (FX_setI (FX_setI ‹_›))) | omega) only [gr_0_0, gr_0_1, gr_0_2, gr_0_3, gr_0_4, gr_0_5, gr_0_6, gr_0_7, gr_1_0, gr_1_5, gr_1_7, gr_5_3, gr_5_9, gr_8_3, gr_8_9, gr_11_3, gr_11_9, gr_14_0, gr_14_1, gr_14_2, gr_18_0, gr_18_1, gr_18_2, gr_24_0, gr_24_1, gr_24_2, gr_24_3, gr_24_5, gr_24_6, gr_24_10, gr_24_11, gr_24_12, gr_24_15, al_2, al_3, al_4, al_7, al_10, al_13, al_15, al_16, al_17, al_19, al_20, al_21, al_22, al_23, al_25, al_26, al_27, al_28, al_29, al_30, al_31, al_32, al_33, al_34, as_2, as_3, as_4, as_7, as_10, as_13, as_15, as_16, as_17, as_19, as_20, as_21, as_22, as_23, as_25, as_26, as_27, as_28, as_29, as_30, as_31, as_32, as_33, as_34, gi_0, gi_1, gi_5, gi_8, gi_11, gi_14, gi_18, gi_24, pi_0, pi_1, pi_5, pi_8, pi_11, pi_14, pi_18, pi_24, rc_0, rc_1, rc_5, rc_8, rc_11, rc_14, rc_18, rc_24, ln_2, ln_3, ln_4, ln_7, ln_10, ln_13, ln_15, ln_16, ln_17, ln_19, ln_20, ln_21, ln_22, ln_23, ln_25, ln_26, ln_27, ln_28, ln_29, ln_30, ln_31, ln_32, ln_33, ln_34, ln_6, ln_9, ln_12, ciN, cvN, lt_eq, nn_none, nn_some, setI_1, setI_at, setI_R, upd2_at, I_add, I_addn, Int32.neg_neg, I_mul, I_ltI, I_leI, I_eqI, I_nat, if_true, if_false, reduceIte, reduceIteN, I_difn, bz_0, bz_1, nz_I, I_rem, I_div, I_sub, l4095, l32, l63, l0, l1, l2, l3, l4, l5, l6, l7, l8, l9, l10, l11, l12, l16, l24, l28, l31, l40, l48, l57, l64, l68, l78, l79, l99, l255, l2000, l2187, l1000000000]
      · rw [A' j h1 h2]
        by_cases hj : j < m
        · rw [if_pos hj]
        · rw [if_neg hj]
          have : ¬ (j ≠ m ∧ wP true m j = true) := by
            intro z
            have z2 := z.2
            unfold wP at z2
            simp only [if_true, decide_eq_true_eq] at z2
            have := z.1
            rw [Nat.mod_eq_of_lt (by omega)] at z2
            omega
          unfold up1
          rw [if_neg this]
  | succ k ih =>
    intro m n h hm hn hm1 F C A
    cases n with
    | zero => omega
    | succ n =>
      have A' : ∀ j, 1 ≤ j → j ≤ σ 0 → h.2.1 22 j = I (if j < m then up1 (σ 1) true d f j else f j) := A
      have k1 := C.1.2.1
      have hgo := c_goesInto (h := h) (a := m) (b := d) (by omega) (by omega) (by omega)
      by_cases hdv : d % m = 0
      · have em := A' m (by omega) (by omega)
        have ed := A' d d1 d2
        rw [if_neg (Nat.lt_irrefl m)] at em
        rw [if_neg (by omega)] at ed
        have hta := c_takeBack W F k1 (show m ≤ 12 by omega) (show d ≤ 12 by omega) em ed (hf m) (hf d)
        have um : up1 (σ 1) true d f m = (f m + σ 1 - f d) % σ 1 := by unfold up1; rw [if_pos ⟨by omega, by unfold wP; simp [hdv]⟩]
        have A1 : FxA [22] h (setI h 22 m (I ((f m + σ 1 - f d) % σ 1))) := FxA.set (by simp)
        obtain ⟨h', r1, r2, r3⟩ := ih (m + 1) n (setI h 22 m (I ((f m + σ 1 - f d) % σ 1))) (by omega) (by omega) (by omega) (FX_setI F) (CO_fx A1 (by simp) C) (fun j h1 h2 => by
          show _ = I (if j < m + 1 then up1 (σ 1) true d f j else f j)
          rw [setI_at]
          by_cases hj : j = m
          · rw [if_pos ⟨rfl, hj⟩, if_pos (by omega), hj, um]
          · rw [if_neg (fun z => hj z.2), A' j h1 h2]
            by_cases hjm : j < m
            · rw [if_pos hjm, if_pos (by omega)]
            · rw [if_neg hjm, if_neg (by omega)])
        refine ⟨h', ?_, A1.tr r2, r3⟩
        rw [if_pos hdv] at hgo
        unfold P_X5_solveByDivisors_L15
        simp (disch := first | assumption | exact FX_setI ‹_› | exact FX_setI (FX_setI ‹_›) | exact FX_setI (FX_setI (FX_setI ‹_›)) | exact FX_setI (FX_setI (FX_setI (FX_setI ‹_›))) | omega) only [gr_0_0, gr_0_1, gr_0_2, gr_0_3, gr_0_4, gr_0_5, gr_0_6, gr_0_7, gr_1_0, gr_1_5, gr_1_7, gr_5_3, gr_5_9, gr_8_3, gr_8_9, gr_11_3, gr_11_9, gr_14_0, gr_14_1, gr_14_2, gr_18_0, gr_18_1, gr_18_2, gr_24_0, gr_24_1, gr_24_2, gr_24_3, gr_24_5, gr_24_6, gr_24_10, gr_24_11, gr_24_12, gr_24_15, al_2, al_3, al_4, al_7, al_10, al_13, al_15, al_16, al_17, al_19, al_20, al_21, al_22, al_23, al_25, al_26, al_27, al_28, al_29, al_30, al_31, al_32, al_33, al_34, as_2, as_3, as_4, as_7, as_10, as_13, as_15, as_16, as_17, as_19, as_20, as_21, as_22, as_23, as_25, as_26, as_27, as_28, as_29, as_30, as_31, as_32, as_33, as_34, gi_0, gi_1, gi_5, gi_8, gi_11, gi_14, gi_18, gi_24, pi_0, pi_1, pi_5, pi_8, pi_11, pi_14, pi_18, pi_24, rc_0, rc_1, rc_5, rc_8, rc_11, rc_14, rc_18, rc_24, ln_2, ln_3, ln_4, ln_7, ln_10, ln_13, ln_15, ln_16, ln_17, ln_19, ln_20, ln_21, ln_22, ln_23, ln_25, ln_26, ln_27, ln_28, ln_29, ln_30, ln_31, ln_32, ln_33, ln_34, ln_6, ln_9, ln_12, ciN, cvN, lt_eq, nn_none, nn_some, setI_1, setI_at, setI_R, upd2_at, I_add, I_addn, Int32.neg_neg, I_mul, I_ltI, I_leI, I_eqI, I_nat, if_true, if_false, reduceIte, reduceIteN, I_difn, bz_0, bz_1, nz_I, I_rem, I_div, I_sub, l4095, l32, l63, l0, l1, l2, l3, l4, l5, l6, l7, l8, l9, l10, l11, l12, l16, l24, l28, l31, l40, l48, l57, l64, l68, l78, l79, l99, l255, l2000, l2187, l1000000000, hgo, hta]
        exact r1
      · obtain ⟨h', r1, r2, r3⟩ := ih (m + 1) n h (by omega) (by omega) (by omega) F C (fun j h1 h2 => by
          show _ = I (if j < m + 1 then up1 (σ 1) true d f j else f j)
          rw [A' j h1 h2]
          by_cases hjm : j < m
          · rw [if_pos hjm, if_pos (by omega)]
          · rw [if_neg hjm]
            by_cases hj : j = m
            · rw [if_pos (by omega)]
              unfold up1
              rw [if_neg (fun z => by
                have z2 := z.2
                unfold wP at z2
                simp only [if_true, decide_eq_true_eq] at z2
                rw [hj] at z2
                exact hdv z2)]
            · rw [if_neg (by omega)])
        refine ⟨h', ?_, r2, r3⟩
        rw [if_neg hdv] at hgo
        unfold P_X5_solveByDivisors_L15
        simp (disch := first | assumption | exact FX_setI ‹_› | exact FX_setI (FX_setI ‹_›) | exact FX_setI (FX_setI (FX_setI ‹_›)) | exact FX_setI (FX_setI (FX_setI (FX_setI ‹_›))) | omega) only [gr_0_0, gr_0_1, gr_0_2, gr_0_3, gr_0_4, gr_0_5, gr_0_6, gr_0_7, gr_1_0, gr_1_5, gr_1_7, gr_5_3, gr_5_9, gr_8_3, gr_8_9, gr_11_3, gr_11_9, gr_14_0, gr_14_1, gr_14_2, gr_18_0, gr_18_1, gr_18_2, gr_24_0, gr_24_1, gr_24_2, gr_24_3, gr_24_5, gr_24_6, gr_24_10, gr_24_11, gr_24_12, gr_24_15, al_2, al_3, al_4, al_7, al_10, al_13, al_15, al_16, al_17, al_19, al_20, al_21, al_22, al_23, al_25, al_26, al_27, al_28, al_29, al_30, al_31, al_32, al_33, al_34, as_2, as_3, as_4, as_7, as_10, as_13, as_15, as_16, as_17, as_19, as_20, as_21, as_22, as_23, as_25, as_26, as_27, as_28, as_29, as_30, as_31, as_32, as_33, as_34, gi_0, gi_1, gi_5, gi_8, gi_11, gi_14, gi_18, gi_24, pi_0, pi_1, pi_5, pi_8, pi_11, pi_14, pi_18, pi_24, rc_0, rc_1, rc_5, rc_8, rc_11, rc_14, rc_18, rc_24, ln_2, ln_3, ln_4, ln_7, ln_10, ln_13, ln_15, ln_16, ln_17, ln_19, ln_20, ln_21, ln_22, ln_23, ln_25, ln_26, ln_27, ln_28, ln_29, ln_30, ln_31, ln_32, ln_33, ln_34, ln_6, ln_9, ln_12, ciN, cvN, lt_eq, nn_none, nn_some, setI_1, setI_at, setI_R, upd2_at, I_add, I_addn, Int32.neg_neg, I_mul, I_ltI, I_leI, I_eqI, I_nat, if_true, if_false, reduceIte, reduceIteN, I_difn, bz_0, bz_1, nz_I, I_rem, I_div, I_sub, l4095, l32, l63, l0, l1, l2, l3, l4, l5, l6, l7, l8, l9, l10, l11, l12, l16, l24, l28, l31, l40, l48, l57, l64, l68, l78, l79, l99, l255, l2000, l2187, l1000000000, hgo]
        exact r1
theorem c_div2_L8 {σ f : Nat → Nat} (W : WF σ) (hf : ∀ m, f m < σ 1) : ∀ (k j n : Nat) (h : Hp), j + k = σ 0 → k < n → FX h → CO h 5 σ → AR h 22 (ak (σ 1) true (σ 0) f j) (σ 0) →
    ∃ h', P_X5_solveByDivisors_L8 n 0 (I (σ 0 - j)) h = some h' ∧ FxA [22] h h' ∧ AR h' 22 (ak (σ 1) true (σ 0) f (σ 0)) (σ 0) := by
  have hn0 := W.1
  have hcol := W.col
  intro k
  induction k with
  | zero =>
    intro j n h hj hn F C A
    cases n with
    | zero => omega
    | succ n =>
      have : j = σ 0 := by omega
      subst this
      refine ⟨h, ?_, FxA.rf, A⟩
      unfold P_X5_solveByDivisors_L8
      simp (disch := first | assumption | exact FX_setI ‹_› | exact FX_setI (FX_setI ‹_›) | exact FX_setI (FX_setI (FX_setI ‹_›)) | exact FX_setI (FX_setI (FX_setI (FX_setI ‹_›))) | omega) only [gr_0_0, gr_0_1, gr_0_2, gr_0_3, gr_0_4, gr_0_5, gr_0_6, gr_0_7, gr_1_0, gr_1_5, gr_1_7, gr_5_3, gr_5_9, gr_8_3, gr_8_9, gr_11_3, gr_11_9, gr_14_0, gr_14_1, gr_14_2, gr_18_0, gr_18_1, gr_18_2, gr_24_0, gr_24_1, gr_24_2, gr_24_3, gr_24_5, gr_24_6, gr_24_10, gr_24_11, gr_24_12, gr_24_15, al_2, al_3, al_4, al_7, al_10, al_13, al_15, al_16, al_17, al_19, al_20, al_21, al_22, al_23, al_25, al_26, al_27, al_28, al_29, al_30, al_31, al_32, al_33, al_34, as_2, as_3, as_4, as_7, as_10, as_13, as_15, as_16, as_17, as_19, as_20, as_21, as_22, as_23, as_25, as_26, as_27, as_28, as_29, as_30, as_31, as_32, as_33, as_34, gi_0, gi_1, gi_5, gi_8, gi_11, gi_14, gi_18, gi_24, pi_0, pi_1, pi_5, pi_8, pi_11, pi_14, pi_18, pi_24, rc_0, rc_1, rc_5, rc_8, rc_11, rc_14, rc_18, rc_24, ln_2, ln_3, ln_4, ln_7, ln_10, ln_13, ln_15, ln_16, ln_17, ln_19, ln_20, ln_21, ln_22, ln_23, ln_25, ln_26, ln_27, ln_28, ln_29, ln_30, ln_31, ln_32, ln_33, ln_34, ln_6, ln_9, ln_12, ciN, cvN, lt_eq, nn_none, nn_some, setI_1, setI_at, setI_R, upd2_at, I_add, I_addn, Int32.neg_neg, I_mul, I_ltI, I_leI, I_eqI, I_nat, if_true, if_false, reduceIte, reduceIteN, I_difn, bz_0, bz_1, nz_I, I_rem, I_div, I_sub, l4095, l32, l63, l0, l1, l2, l3, l4, l5, l6, l7, l8, l9, l10, l11, l12, l16, l24, l28, l31, l40, l48, l57, l64, l68, l78, l79, l99, l255, l2000, l2187, l1000000000]
  | succ k ih =>
    intro j n h hj hn F C A
    cases n with
    | zero => omega
    | succ n =>
      obtain ⟨h1, a1, a2, a3⟩ := c_div2_L15 W (f := ak (σ 1) true (σ 0) f j) (ak_lt (by omega) hf j) (d := σ 0 - j) (by omega) (by omega) (fun h5 => P_X5_solveByDivisors_L8 n 0 (I (σ 0 - j - 1)) h5) (σ 0 - j - 1) 1 FU h (by omega) (by have := FU_eq; omega) (by omega) F C (fun m h1 h2 => by
        show _ = I (if m < 1 then up1 (σ 1) true (σ 0 - j) (ak (σ 1) true (σ 0) f j) m else ak (σ 1) true (σ 0) f j m)
        rw [A m h1 h2, if_neg (by omega)])
      obtain ⟨h', r1, r2, r3⟩ := ih (j + 1) n h1 (by omega) (by omega) (a2.fx F) (CO_fx a2 (by simp) C) a3
      refine ⟨h', ?_, a2.tr r2, r3⟩
      unfold P_X5_solveByDivisors_L8
      simp (disch := first | assumption | exact FX_setI ‹_› | exact FX_setI (FX_setI ‹_›) | exact FX_setI (FX_setI (FX_setI ‹_›)) | exact FX_setI (FX_setI (FX_setI (FX_setI ‹_›))) | omega) only [gr_0_0, gr_0_1, gr_0_2, gr_0_3, gr_0_4, gr_0_5, gr_0_6, gr_0_7, gr_1_0, gr_1_5, gr_1_7, gr_5_3, gr_5_9, gr_8_3, gr_8_9, gr_11_3, gr_11_9, gr_14_0, gr_14_1, gr_14_2, gr_18_0, gr_18_1, gr_18_2, gr_24_0, gr_24_1, gr_24_2, gr_24_3, gr_24_5, gr_24_6, gr_24_10, gr_24_11, gr_24_12, gr_24_15, al_2, al_3, al_4, al_7, al_10, al_13, al_15, al_16, al_17, al_19, al_20, al_21, al_22, al_23, al_25, al_26, al_27, al_28, al_29, al_30, al_31, al_32, al_33, al_34, as_2, as_3, as_4, as_7, as_10, as_13, as_15, as_16, as_17, as_19, as_20, as_21, as_22, as_23, as_25, as_26, as_27, as_28, as_29, as_30, as_31, as_32, as_33, as_34, gi_0, gi_1, gi_5, gi_8, gi_11, gi_14, gi_18, gi_24, pi_0, pi_1, pi_5, pi_8, pi_11, pi_14, pi_18, pi_24, rc_0, rc_1, rc_5, rc_8, rc_11, rc_14, rc_18, rc_24, ln_2, ln_3, ln_4, ln_7, ln_10, ln_13, ln_15, ln_16, ln_17, ln_19, ln_20, ln_21, ln_22, ln_23, ln_25, ln_26, ln_27, ln_28, ln_29, ln_30, ln_31, ln_32, ln_33, ln_34, ln_6, ln_9, ln_12, ciN, cvN, lt_eq, nn_none, nn_some, setI_1, setI_at, setI_R, upd2_at, I_add, I_addn, Int32.neg_neg, I_mul, I_ltI, I_leI, I_eqI, I_nat, if_true, if_false, reduceIte, reduceIteN, I_difn, bz_0, bz_1, nz_I, I_rem, I_div, I_sub, l4095, l32, l63, l0, l1, l2, l3, l4, l5, l6, l7, l8, l9, l10, l11, l12, l16, l24, l28, l31, l40, l48, l57, l64, l68, l78, l79, l99, l255, l2000, l2187, l1000000000]
      exact Eq.trans a1 r1
-- ===== the model =====
theorem MS_fx {A : List Nat} {h h' : Hp} {σ : Nat → Nat} (a : FxA A h h') (hA : 26 ∉ A) (M : MS h σ) : MS h' σ := ⟨a.fx M.1, fun j hj => by rw [a.2.2 26 hA]; exact M.2 j hj⟩
theorem m_way_L13 {σ : Nat → Nat} (W : WF σ) {s : Nat} (hs0 : s < 2147483648) (v5 : Int32) (kont : Hp → Option Hp) : ∀ (k j n : Nat) (h : Hp), j + k = σ 0 → k < n → MS h σ → AR h 32 (fun m => dgt (σ 1) s (m - 1)) j →
    ∃ h', P_X6_findsWay_L13 n 24 v5 (I (σ 0)) (I (s / σ 1 ^ j)) (I (j + 1)) h kont = kont h' ∧ FxA [32] h h' ∧ AR h' 32 (fun m => dgt (σ 1) s (m - 1)) (σ 0) := by
  have hn0 := W.1
  have hcol := W.col
  intro k
  induction k with
  | zero =>
    intro j n h hj hn M A
    cases n with
    | zero => omega
    | succ n =>
      have : j = σ 0 := by omega
      subst this
      refine ⟨h, ?_, FxA.rf, A⟩
      unfold P_X6_findsWay_L13
      simp (disch := first | assumption | exact FX_setI ‹_› | exact FX_setI (FX_setI ‹_›) | exact FX_setI (FX_setI (FX_setI ‹_›)) | exact FX_setI (FX_setI (FX_setI (FX_setI ‹_›))) | omega) only [gr_0_0, gr_0_1, gr_0_2, gr_0_3, gr_0_4, gr_0_5, gr_0_6, gr_0_7, gr_1_0, gr_1_5, gr_1_7, gr_5_3, gr_5_9, gr_8_3, gr_8_9, gr_11_3, gr_11_9, gr_14_0, gr_14_1, gr_14_2, gr_18_0, gr_18_1, gr_18_2, gr_24_0, gr_24_1, gr_24_2, gr_24_3, gr_24_5, gr_24_6, gr_24_10, gr_24_11, gr_24_12, gr_24_15, al_2, al_3, al_4, al_7, al_10, al_13, al_15, al_16, al_17, al_19, al_20, al_21, al_22, al_23, al_25, al_26, al_27, al_28, al_29, al_30, al_31, al_32, al_33, al_34, as_2, as_3, as_4, as_7, as_10, as_13, as_15, as_16, as_17, as_19, as_20, as_21, as_22, as_23, as_25, as_26, as_27, as_28, as_29, as_30, as_31, as_32, as_33, as_34, gi_0, gi_1, gi_5, gi_8, gi_11, gi_14, gi_18, gi_24, pi_0, pi_1, pi_5, pi_8, pi_11, pi_14, pi_18, pi_24, rc_0, rc_1, rc_5, rc_8, rc_11, rc_14, rc_18, rc_24, ln_2, ln_3, ln_4, ln_7, ln_10, ln_13, ln_15, ln_16, ln_17, ln_19, ln_20, ln_21, ln_22, ln_23, ln_25, ln_26, ln_27, ln_28, ln_29, ln_30, ln_31, ln_32, ln_33, ln_34, ln_6, ln_9, ln_12, ciN, cvN, lt_eq, nn_none, nn_some, setI_1, setI_at, setI_R, upd2_at, I_add, I_addn, Int32.neg_neg, I_mul, I_ltI, I_leI, I_eqI, I_nat, if_true, if_false, reduceIte, reduceIteN, I_difn, bz_0, bz_1, nz_I, I_rem, I_div, I_sub, l4095, l32, l63, l0, l1, l2, l3, l4, l5, l6, l7, l8, l9, l10, l11, l12, l16, l24, l28, l31, l40, l48, l57, l64, l68, l78, l79, l99, l255, l2000, l2187, l1000000000]
  | succ k ih =>
    intro j n h hj hn M A
    cases n with
    | zero => omega
    | succ n =>
      obtain ⟨F, hs⟩ := id M
      have hq : s / σ 1 ^ j < 2147483648 := Nat.lt_of_le_of_lt (Nat.div_le_self _ _) hs0
      have e : s / σ 1 ^ j % σ 1 = dgt (σ 1) s j := rfl
      have e2 : s / σ 1 ^ j / σ 1 = s / σ 1 ^ (j + 1) := by rw [Nat.div_div_eq_div_mul, Nat.pow_succ]
      have A1 : FxA [32] h (setI h 32 (j + 1) (I (dgt (σ 1) s j))) := FxA.set (by simp)
      obtain ⟨h', r1, r2, r3⟩ := ih (j + 1) n (setI h 32 (j + 1) (I (dgt (σ 1) s j))) (by omega) (by omega) (MS_fx A1 (by simp) M) (fun m h1 h2 => by
        rw [setI_at]
        by_cases hm : m = j + 1
        · rw [if_pos ⟨rfl, hm⟩, hm]; rfl
        · rw [if_neg (fun z => hm z.2)]
          exact A m h1 (by omega))
      have hs1 : (setI h 32 (j + 1) (I (dgt (σ 1) s j))).2.1 26 1 = I (σ 1) := by rw [setI_ne (by decide)]; exact hs 1 (by decide)
      refine ⟨h', ?_, A1.tr r2, r3⟩
      unfold P_X6_findsWay_L13
      simp (disch := first | assumption | exact FX_setI ‹_› | exact FX_setI (FX_setI ‹_›) | exact FX_setI (FX_setI (FX_setI ‹_›)) | exact FX_setI (FX_setI (FX_setI (FX_setI ‹_›))) | omega) only [gr_0_0, gr_0_1, gr_0_2, gr_0_3, gr_0_4, gr_0_5, gr_0_6, gr_0_7, gr_1_0, gr_1_5, gr_1_7, gr_5_3, gr_5_9, gr_8_3, gr_8_9, gr_11_3, gr_11_9, gr_14_0, gr_14_1, gr_14_2, gr_18_0, gr_18_1, gr_18_2, gr_24_0, gr_24_1, gr_24_2, gr_24_3, gr_24_5, gr_24_6, gr_24_10, gr_24_11, gr_24_12, gr_24_15, al_2, al_3, al_4, al_7, al_10, al_13, al_15, al_16, al_17, al_19, al_20, al_21, al_22, al_23, al_25, al_26, al_27, al_28, al_29, al_30, al_31, al_32, al_33, al_34, as_2, as_3, as_4, as_7, as_10, as_13, as_15, as_16, as_17, as_19, as_20, as_21, as_22, as_23, as_25, as_26, as_27, as_28, as_29, as_30, as_31, as_32, as_33, as_34, gi_0, gi_1, gi_5, gi_8, gi_11, gi_14, gi_18, gi_24, pi_0, pi_1, pi_5, pi_8, pi_11, pi_14, pi_18, pi_24, rc_0, rc_1, rc_5, rc_8, rc_11, rc_14, rc_18, rc_24, ln_2, ln_3, ln_4, ln_7, ln_10, ln_13, ln_15, ln_16, ln_17, ln_19, ln_20, ln_21, ln_22, ln_23, ln_25, ln_26, ln_27, ln_28, ln_29, ln_30, ln_31, ln_32, ln_33, ln_34, ln_6, ln_9, ln_12, ciN, cvN, lt_eq, nn_none, nn_some, setI_1, setI_at, setI_R, upd2_at, I_add, I_addn, Int32.neg_neg, I_mul, I_ltI, I_leI, I_eqI, I_nat, if_true, if_false, reduceIte, reduceIteN, I_difn, bz_0, bz_1, nz_I, I_rem, I_div, I_sub, l4095, l32, l63, l0, l1, l2, l3, l4, l5, l6, l7, l8, l9, l10, l11, l12, l16, l24, l28, l31, l40, l48, l57, l64, l68, l78, l79, l99, l255, l2000, l2187, l1000000000, hs, e, e2, hs1]
      exact r1
theorem m_way_L95 {σ f : Nat → Nat} (W : WF σ) (hf : ∀ m, f m < σ 1) {b : Bool} {d : Nat} (d1 : 1 ≤ d) (d2 : d ≤ σ 0) (v22 : Int32) (kont : Hp → Option Hp) : ∀ (k m n : Nat) (h : Hp), m + k = σ 0 + 1 → k < n → 1 ≤ m → MS h σ → h.2.1 31 d = I (f d) → AR h 32 (fun j => if j < m then up2 (σ 1) b d f j else f j) (σ 0) →
    ∃ h', P_X6_findsWay_L95 n 24 (if b then I 0 else I 1) (I (σ 0)) v22 (I d) (I m) h kont = kont h' ∧ FxA [32] h h' ∧ AR h' 32 (up2 (σ 1) b d f) (σ 0) := by
  have hn0 := W.1
  have hcol := W.col
  intro k
  induction k with
  | zero =>
    intro m n h hm hn hm1 M X A
    cases n with
    | zero => omega
    | succ n =>
      have A' : ∀ j, 1 ≤ j → j ≤ σ 0 → h.2.1 32 j = I (if j < m then up2 (σ 1) b d f j else f j) := A
      refine ⟨h, ?_, FxA.rf, fun j h1 h2 => ?_⟩
      · unfold P_X6_findsWay_L95
        simp (disch := first | assumption | exact FX_setI ‹_› | exact FX_setI (FX_setI ‹_›) | exact FX_setI (FX_setI (FX_setI ‹_›)) | exact FX_setI (FX_setI (FX_setI (FX_setI ‹_›))) | omega) only [gr_0_0, gr_0_1, gr_0_2, gr_0_3, gr_0_4, gr_0_5, gr_0_6, gr_0_7, gr_1_0, gr_1_5, gr_1_7, gr_5_3, gr_5_9, gr_8_3, gr_8_9, gr_11_3, gr_11_9, gr_14_0, gr_14_1, gr_14_2, gr_18_0, gr_18_1, gr_18_2, gr_24_0, gr_24_1, gr_24_2, gr_24_3, gr_24_5, gr_24_6, gr_24_10, gr_24_11, gr_24_12, gr_24_15, al_2, al_3, al_4, al_7, al_10, al_13, al_15, al_16, al_17, al_19, al_20, al_21, al_22, al_23, al_25, al_26, al_27, al_28, al_29, al_30, al_31, al_32, al_33, al_34, as_2, as_3, as_4, as_7, as_10, as_13, as_15, as_16, as_17, as_19, as_20, as_21, as_22, as_23, as_25, as_26, as_27, as_28, as_29, as_30, as_31, as_32, as_33, as_34, gi_0, gi_1, gi_5, gi_8, gi_11, gi_14, gi_18, gi_24, pi_0, pi_1, pi_5, pi_8, pi_11, pi_14, pi_18, pi_24, rc_0, rc_1, rc_5, rc_8, rc_11, rc_14, rc_18, rc_24, ln_2, ln_3, ln_4, ln_7, ln_10, ln_13, ln_15, ln_16, ln_17, ln_19, ln_20, ln_21, ln_22, ln_23, ln_25, ln_26, ln_27, ln_28, ln_29, ln_30, ln_31, ln_32, ln_33, ln_34, ln_6, ln_9, ln_12, ciN, cvN, lt_eq, nn_none, nn_some, setI_1, setI_at, setI_R, upd2_at, I_add, I_addn, Int32.neg_neg, I_mul, I_ltI, I_leI, I_eqI, I_nat, if_true, if_false, reduceIte, reduceIteN, I_difn, bz_0, bz_1, nz_I, I_rem, I_div, I_sub, l4095, l32, l63, l0, l1, l2, l3, l4, l5, l6, l7, l8, l9, l10, l11, l12, l16, l24, l28, l31, l40, l48, l57, l64, l68, l78, l79, l99, l255, l2000, l2187, l1000000000]
      · have := A' j h1 h2
        rw [if_pos (show j < m by omega)] at this
        exact this
  | succ k ih =>
    intro m n h hm hn hm1 M X A
    cases n with
    | zero => omega
    | succ n =>
      have A' : ∀ j, 1 ≤ j → j ≤ σ 0 → h.2.1 32 j = I (if j < m then up2 (σ 1) b d f j else f j) := A
      obtain ⟨F, hs⟩ := id M
      have em := A' m (by omega) (by omega)
      rw [if_neg (Nat.lt_irrefl m)] at em
      have hfm := hf m
      have hfd := hf d
      by_cases hp : wP b d m = true
      · have um : up2 (σ 1) b d f m = (f m + σ 1 - f d) % σ 1 := by unfold up2; rw [if_pos hp]
        have A1 : FxA [32] h (setI h 32 m (I ((f m + σ 1 - f d) % σ 1))) := FxA.set (by simp)
        obtain ⟨h', r1, r2, r3⟩ := ih (m + 1) n (setI h 32 m (I ((f m + σ 1 - f d) % σ 1))) (by omega) (by omega) (by omega) (MS_fx A1 (by simp) M) (by rw [setI_ne (by decide)]; exact X) (fun j h1 h2 => by
          show _ = I (if j < m + 1 then up2 (σ 1) b d f j else f j)
          rw [setI_at]
          by_cases hj : j = m
          · rw [if_pos ⟨rfl, hj⟩, if_pos (by omega), hj, um]
          · rw [if_neg (fun z => hj z.2), A' j h1 h2]
            by_cases hjm : j < m
            · rw [if_pos hjm, if_pos (by omega)]
            · rw [if_neg hjm, if_neg (by omega)])
        refine ⟨h', ?_, A1.tr r2, r3⟩
        unfold P_X6_findsWay_L95
        cases b
        · have hgo := m_goesInto (h := h) (a := d) (b := m) (by omega) (by omega) (by omega)
          unfold wP at hp
          simp only [Bool.false_eq_true, if_false, decide_eq_true_eq] at hp
          rw [if_pos hp] at hgo
          simp only [Bool.false_eq_true, if_false] at r1 ⊢
          simp (disch := first | assumption | exact FX_setI ‹_› | exact FX_setI (FX_setI ‹_›) | exact FX_setI (FX_setI (FX_setI ‹_›)) | exact FX_setI (FX_setI (FX_setI (FX_setI ‹_›))) | omega) only [gr_0_0, gr_0_1, gr_0_2, gr_0_3, gr_0_4, gr_0_5, gr_0_6, gr_0_7, gr_1_0, gr_1_5, gr_1_7, gr_5_3, gr_5_9, gr_8_3, gr_8_9, gr_11_3, gr_11_9, gr_14_0, gr_14_1, gr_14_2, gr_18_0, gr_18_1, gr_18_2, gr_24_0, gr_24_1, gr_24_2, gr_24_3, gr_24_5, gr_24_6, gr_24_10, gr_24_11, gr_24_12, gr_24_15, al_2, al_3, al_4, al_7, al_10, al_13, al_15, al_16, al_17, al_19, al_20, al_21, al_22, al_23, al_25, al_26, al_27, al_28, al_29, al_30, al_31, al_32, al_33, al_34, as_2, as_3, as_4, as_7, as_10, as_13, as_15, as_16, as_17, as_19, as_20, as_21, as_22, as_23, as_25, as_26, as_27, as_28, as_29, as_30, as_31, as_32, as_33, as_34, gi_0, gi_1, gi_5, gi_8, gi_11, gi_14, gi_18, gi_24, pi_0, pi_1, pi_5, pi_8, pi_11, pi_14, pi_18, pi_24, rc_0, rc_1, rc_5, rc_8, rc_11, rc_14, rc_18, rc_24, ln_2, ln_3, ln_4, ln_7, ln_10, ln_13, ln_15, ln_16, ln_17, ln_19, ln_20, ln_21, ln_22, ln_23, ln_25, ln_26, ln_27, ln_28, ln_29, ln_30, ln_31, ln_32, ln_33, ln_34, ln_6, ln_9, ln_12, ciN, cvN, lt_eq, nn_none, nn_some, setI_1, setI_at, setI_R, upd2_at, I_add, I_addn, Int32.neg_neg, I_mul, I_ltI, I_leI, I_eqI, I_nat, if_true, if_false, reduceIte, reduceIteN, I_difn, bz_0, bz_1, nz_I, I_rem, I_div, I_sub, l4095, l32, l63, l0, l1, l2, l3, l4, l5, l6, l7, l8, l9, l10, l11, l12, l16, l24, l28, l31, l40, l48, l57, l64, l68, l78, l79, l99, l255, l2000, l2187, l1000000000, hgo, hs, em, X]
          exact r1
        · have hgo := m_goesInto (h := h) (a := m) (b := d) (by omega) (by omega) (by omega)
          unfold wP at hp
          simp only [if_true, decide_eq_true_eq] at hp
          rw [if_pos hp] at hgo
          simp only [if_true] at r1 ⊢
          simp (disch := first | assumption | exact FX_setI ‹_› | exact FX_setI (FX_setI ‹_›) | exact FX_setI (FX_setI (FX_setI ‹_›)) | exact FX_setI (FX_setI (FX_setI (FX_setI ‹_›))) | omega) only [gr_0_0, gr_0_1, gr_0_2, gr_0_3, gr_0_4, gr_0_5, gr_0_6, gr_0_7, gr_1_0, gr_1_5, gr_1_7, gr_5_3, gr_5_9, gr_8_3, gr_8_9, gr_11_3, gr_11_9, gr_14_0, gr_14_1, gr_14_2, gr_18_0, gr_18_1, gr_18_2, gr_24_0, gr_24_1, gr_24_2, gr_24_3, gr_24_5, gr_24_6, gr_24_10, gr_24_11, gr_24_12, gr_24_15, al_2, al_3, al_4, al_7, al_10, al_13, al_15, al_16, al_17, al_19, al_20, al_21, al_22, al_23, al_25, al_26, al_27, al_28, al_29, al_30, al_31, al_32, al_33, al_34, as_2, as_3, as_4, as_7, as_10, as_13, as_15, as_16, as_17, as_19, as_20, as_21, as_22, as_23, as_25, as_26, as_27, as_28, as_29, as_30, as_31, as_32, as_33, as_34, gi_0, gi_1, gi_5, gi_8, gi_11, gi_14, gi_18, gi_24, pi_0, pi_1, pi_5, pi_8, pi_11, pi_14, pi_18, pi_24, rc_0, rc_1, rc_5, rc_8, rc_11, rc_14, rc_18, rc_24, ln_2, ln_3, ln_4, ln_7, ln_10, ln_13, ln_15, ln_16, ln_17, ln_19, ln_20, ln_21, ln_22, ln_23, ln_25, ln_26, ln_27, ln_28, ln_29, ln_30, ln_31, ln_32, ln_33, ln_34, ln_6, ln_9, ln_12, ciN, cvN, lt_eq, nn_none, nn_some, setI_1, setI_at, setI_R, upd2_at, I_add, I_addn, Int32.neg_neg, I_mul, I_ltI, I_leI, I_eqI, I_nat, if_true, if_false, reduceIte, reduceIteN, I_difn, bz_0, bz_1, nz_I, I_rem, I_div, I_sub, l4095, l32, l63, l0, l1, l2, l3, l4, l5, l6, l7, l8, l9, l10, l11, l12, l16, l24, l28, l31, l40, l48, l57, l64, l68, l78, l79, l99, l255, l2000, l2187, l1000000000, hgo, hs, em, X]
          exact r1
      · have um : up2 (σ 1) b d f m = f m := by unfold up2; rw [if_neg hp]
        obtain ⟨h', r1, r2, r3⟩ := ih (m + 1) n h (by omega) (by omega) (by omega) M X (fun j h1 h2 => by
          show _ = I (if j < m + 1 then up2 (σ 1) b d f j else f j)
          rw [A' j h1 h2]
          by_cases hjm : j < m
          · rw [if_pos hjm, if_pos (by omega)]
          · rw [if_neg hjm]
            by_cases hj : j = m
            · rw [if_pos (by omega), hj, um]
            · rw [if_neg (by omega)])
        refine ⟨h', ?_, r2, r3⟩
        unfold P_X6_findsWay_L95
        cases b
        · have hgo := m_goesInto (h := h) (a := d) (b := m) (by omega) (by omega) (by omega)
          unfold wP at hp
          simp only [Bool.false_eq_true, if_false, decide_eq_true_eq] at hp
          rw [if_neg hp] at hgo
          simp only [Bool.false_eq_true, if_false] at r1 ⊢
          simp (disch := first | assumption | exact FX_setI ‹_› | exact FX_setI (FX_setI ‹_›) | exact FX_setI (FX_setI (FX_setI ‹_›)) | exact FX_setI (FX_setI (FX_setI (FX_setI ‹_›))) | omega) only [gr_0_0, gr_0_1, gr_0_2, gr_0_3, gr_0_4, gr_0_5, gr_0_6, gr_0_7, gr_1_0, gr_1_5, gr_1_7, gr_5_3, gr_5_9, gr_8_3, gr_8_9, gr_11_3, gr_11_9, gr_14_0, gr_14_1, gr_14_2, gr_18_0, gr_18_1, gr_18_2, gr_24_0, gr_24_1, gr_24_2, gr_24_3, gr_24_5, gr_24_6, gr_24_10, gr_24_11, gr_24_12, gr_24_15, al_2, al_3, al_4, al_7, al_10, al_13, al_15, al_16, al_17, al_19, al_20, al_21, al_22, al_23, al_25, al_26, al_27, al_28, al_29, al_30, al_31, al_32, al_33, al_34, as_2, as_3, as_4, as_7, as_10, as_13, as_15, as_16, as_17, as_19, as_20, as_21, as_22, as_23, as_25, as_26, as_27, as_28, as_29, as_30, as_31, as_32, as_33, as_34, gi_0, gi_1, gi_5, gi_8, gi_11, gi_14, gi_18, gi_24, pi_0, pi_1, pi_5, pi_8, pi_11, pi_14, pi_18, pi_24, rc_0, rc_1, rc_5, rc_8, rc_11, rc_14, rc_18, rc_24, ln_2, ln_3, ln_4, ln_7, ln_10, ln_13, ln_15, ln_16, ln_17, ln_19, ln_20, ln_21, ln_22, ln_23, ln_25, ln_26, ln_27, ln_28, ln_29, ln_30, ln_31, ln_32, ln_33, ln_34, ln_6, ln_9, ln_12, ciN, cvN, lt_eq, nn_none, nn_some, setI_1, setI_at, setI_R, upd2_at, I_add, I_addn, Int32.neg_neg, I_mul, I_ltI, I_leI, I_eqI, I_nat, if_true, if_false, reduceIte, reduceIteN, I_difn, bz_0, bz_1, nz_I, I_rem, I_div, I_sub, l4095, l32, l63, l0, l1, l2, l3, l4, l5, l6, l7, l8, l9, l10, l11, l12, l16, l24, l28, l31, l40, l48, l57, l64, l68, l78, l79, l99, l255, l2000, l2187, l1000000000, hgo]
          exact r1
        · have hgo := m_goesInto (h := h) (a := m) (b := d) (by omega) (by omega) (by omega)
          unfold wP at hp
          simp only [if_true, decide_eq_true_eq] at hp
          rw [if_neg hp] at hgo
          simp only [if_true] at r1 ⊢
          simp (disch := first | assumption | exact FX_setI ‹_› | exact FX_setI (FX_setI ‹_›) | exact FX_setI (FX_setI (FX_setI ‹_›)) | exact FX_setI (FX_setI (FX_setI (FX_setI ‹_›))) | omega) only [gr_0_0, gr_0_1, gr_0_2, gr_0_3, gr_0_4, gr_0_5, gr_0_6, gr_0_7, gr_1_0, gr_1_5, gr_1_7, gr_5_3, gr_5_9, gr_8_3, gr_8_9, gr_11_3, gr_11_9, gr_14_0, gr_14_1, gr_14_2, gr_18_0, gr_18_1, gr_18_2, gr_24_0, gr_24_1, gr_24_2, gr_24_3, gr_24_5, gr_24_6, gr_24_10, gr_24_11, gr_24_12, gr_24_15, al_2, al_3, al_4, al_7, al_10, al_13, al_15, al_16, al_17, al_19, al_20, al_21, al_22, al_23, al_25, al_26, al_27, al_28, al_29, al_30, al_31, al_32, al_33, al_34, as_2, as_3, as_4, as_7, as_10, as_13, as_15, as_16, as_17, as_19, as_20, as_21, as_22, as_23, as_25, as_26, as_27, as_28, as_29, as_30, as_31, as_32, as_33, as_34, gi_0, gi_1, gi_5, gi_8, gi_11, gi_14, gi_18, gi_24, pi_0, pi_1, pi_5, pi_8, pi_11, pi_14, pi_18, pi_24, rc_0, rc_1, rc_5, rc_8, rc_11, rc_14, rc_18, rc_24, ln_2, ln_3, ln_4, ln_7, ln_10, ln_13, ln_15, ln_16, ln_17, ln_19, ln_20, ln_21, ln_22, ln_23, ln_25, ln_26, ln_27, ln_28, ln_29, ln_30, ln_31, ln_32, ln_33, ln_34, ln_6, ln_9, ln_12, ciN, cvN, lt_eq, nn_none, nn_some, setI_1, setI_at, setI_R, upd2_at, I_add, I_addn, Int32.neg_neg, I_mul, I_ltI, I_leI, I_eqI, I_nat, if_true, if_false, reduceIte, reduceIteN, I_difn, bz_0, bz_1, nz_I, I_rem, I_div, I_sub, l4095, l32, l63, l0, l1, l2, l3, l4, l5, l6, l7, l8, l9, l10, l11, l12, l16, l24, l28, l31, l40, l48, l57, l64, l68, l78, l79, l99, l255, l2000, l2187, l1000000000, hgo]
          exact r1
theorem m_way_L55 {σ f : Nat → Nat} (W : WF σ) (hf : ∀ m, f m < σ 1) {b : Bool} : ∀ (k j n : Nat) (h : Hp), j + k = σ 0 → k < n → MS h σ → AR h 32 (wk (σ 1) b (σ 0) f j) (σ 0) → (∀ m, 1 ≤ m → m ≤ σ 0 → wdn b (σ 0) j m → h.2.1 31 m = I (ak (σ 1) b (σ 0) f j m)) →
    ∃ h', P_X6_findsWay_L55 n 24 (if b then I 0 else I 1) (I (σ 0)) (I j) h = some h' ∧ FxA [31, 32] h h' ∧ AR h' 31 (ak (σ 1) b (σ 0) f (σ 0)) (σ 0) := by
  have hn0 := W.1
  have hcol := W.col
  intro k
  induction k with
  | zero =>
    intro j n h hj hn M A X
    cases n with
    | zero => omega
    | succ n =>
      have : j = σ 0 := by omega
      subst this
      refine ⟨h, ?_, FxA.rf, fun m h1 h2 => X m h1 h2 ?_⟩
      · unfold P_X6_findsWay_L55
        simp (disch := first | assumption | exact FX_setI ‹_› | exact FX_setI (FX_setI ‹_›) | exact FX_setI (FX_setI (FX_setI ‹_›)) | exact FX_setI (FX_setI (FX_setI (FX_setI ‹_›))) | omega) only [gr_0_0, gr_0_1, gr_0_2, gr_0_3, gr_0_4, gr_0_5, gr_0_6, gr_0_7, gr_1_0, gr_1_5, gr_1_7, gr_5_3, gr_5_9, gr_8_3, gr_8_9, gr_11_3, gr_11_9, gr_14_0, gr_14_1, gr_14_2, gr_18_0, gr_18_1, gr_18_2, gr_24_0, gr_24_1, gr_24_2, gr_24_3, gr_24_5, gr_24_6, gr_24_10, gr_24_11, gr_24_12, gr_24_15, al_2, al_3, al_4, al_7, al_10, al_13, al_15, al_16, al_17, al_19, al_20, al_21, al_22, al_23, al_25, al_26, al_27, al_28, al_29, al_30, al_31, al_32, al_33, al_34, as_2, as_3, as_4, as_7, as_10, as_13, as_15, as_16, as_17, as_19, as_20, as_21, as_22, as_23, as_25, as_26, as_27, as_28, as_29, as_30, as_31, as_32, as_33, as_34, gi_0, gi_1, gi_5, gi_8, gi_11, gi_14, gi_18, gi_24, pi_0, pi_1, pi_5, pi_8, pi_11, pi_14, pi_18, pi_24, rc_0, rc_1, rc_5, rc_8, rc_11, rc_14, rc_18, rc_24, ln_2, ln_3, ln_4, ln_7, ln_10, ln_13, ln_15, ln_16, ln_17, ln_19, ln_20, ln_21, ln_22, ln_23, ln_25, ln_26, ln_27, ln_28, ln_29, ln_30, ln_31, ln_32, ln_33, ln_34, ln_6, ln_9, ln_12, ciN, cvN, lt_eq, nn_none, nn_some, setI_1, setI_at, setI_R, upd2_at, I_add, I_addn, Int32.neg_neg, I_mul, I_ltI, I_leI, I_eqI, I_nat, if_true, if_false, reduceIte, reduceIteN, I_difn, bz_0, bz_1, nz_I, I_rem, I_div, I_sub, l4095, l32, l63, l0, l1, l2, l3, l4, l5, l6, l7, l8, l9, l10, l11, l12, l16, l24, l28, l31, l40, l48, l57, l64, l68, l78, l79, l99, l255, l2000, l2187, l1000000000]
      · unfold wdn
        cases b
        · simp only [Bool.false_eq_true, if_false]; exact h2
        · simp only [if_true]; omega
  | succ k ih =>
    intro j n h hj hn M A X
    cases n with
    | zero => omega
    | succ n =>
      have hd1 : 1 ≤ wds b (σ 0) j ∧ wds b (σ 0) j ≤ σ 0 ∧ ¬ wdn b (σ 0) j (wds b (σ 0) j) := by
        unfold wdn wds
        cases b
        · simp only [Bool.false_eq_true, if_false]; omega
        · simp only [if_true]; omega
      have ed := A _ hd1.1 hd1.2.1
      have eak := ak_wk (c := σ 1) (b := b) (f := f) j (by omega) _ hd1.1 hd1.2.1 hd1.2.2
      have F := M.1
      have A1 : FxA [31] h (setI h 31 (wds b (σ 0) j) (I (wk (σ 1) b (σ 0) f j (wds b (σ 0) j)))) := FxA.set (by simp)
      have M1 := MS_fx A1 (by simp) M
      obtain ⟨h1, a1, a2, a3⟩ := m_way_L95 W (f := wk (σ 1) b (σ 0) f j) (wk_lt (by omega) hf j) (b := b) (d := wds b (σ 0) j) hd1.1 hd1.2.1 (I j) (fun h11 => P_X6_findsWay_L55 n 24 (if b then I 0 else I 1) (I (σ 0)) (I (j + 1)) h11) (σ 0) 1 FU (setI h 31 (wds b (σ 0) j) (I (wk (σ 1) b (σ 0) f j (wds b (σ 0) j)))) (by omega) (by have := FU_eq; omega) (by omega) M1 (by rw [setI_at, if_pos ⟨rfl, rfl⟩]) (fun m h1 h2 => by
        show _ = I (if m < 1 then up2 (σ 1) b (wds b (σ 0) j) (wk (σ 1) b (σ 0) f j) m else wk (σ 1) b (σ 0) f j m)
        rw [setI_ne (by decide), A m h1 h2, if_neg (by omega)])
      have A2 : FxA [31, 32] h h1 := (A1.up (by simp)).tr (a2.up (by simp))
      obtain ⟨h', r1, r2, r3⟩ := ih (j + 1) n h1 (by omega) (by omega) (MS_fx a2 (by simp) M1) a3 (fun m h1 h2 hd => by
        rw [a2.2.2 31 (by decide), setI_at]
        have hcase : wdn b (σ 0) j m ∨ m = wds b (σ 0) j := by
          unfold wdn wds at *
          cases b
          · simp only [Bool.false_eq_true, if_false] at hd ⊢; omega
          · simp only [if_true] at hd ⊢; omega
        rw [ak_done (by omega) h1 hcase]
        by_cases hm : m = wds b (σ 0) j
        · rw [if_pos ⟨rfl, hm⟩, hm, eak]
        · rw [if_neg (fun z => hm z.2)]
          exact X m h1 h2 (hcase.resolve_right hm))
      refine ⟨h', ?_, A2.tr r2, r3⟩
      unfold P_X6_findsWay_L55
      cases b
      · have edw : wds false (σ 0) j = j + 1 := rfl
        rw [edw] at ed a1
        simp only [Bool.false_eq_true, if_false] at a1 r1 ⊢
        simp (disch := first | assumption | exact FX_setI ‹_› | exact FX_setI (FX_setI ‹_›) | exact FX_setI (FX_setI (FX_setI ‹_›)) | exact FX_setI (FX_setI (FX_setI (FX_setI ‹_›))) | omega) only [gr_0_0, gr_0_1, gr_0_2, gr_0_3, gr_0_4, gr_0_5, gr_0_6, gr_0_7, gr_1_0, gr_1_5, gr_1_7, gr_5_3, gr_5_9, gr_8_3, gr_8_9, gr_11_3, gr_11_9, gr_14_0, gr_14_1, gr_14_2, gr_18_0, gr_18_1, gr_18_2, gr_24_0, gr_24_1, gr_24_2, gr_24_3, gr_24_5, gr_24_6, gr_24_10, gr_24_11, gr_24_12, gr_24_15, al_2, al_3, al_4, al_7, al_10, al_13, al_15, al_16, al_17, al_19, al_20, al_21, al_22, al_23, al_25, al_26, al_27, al_28, al_29, al_30, al_31, al_32, al_33, al_34, as_2, as_3, as_4, as_7, as_10, as_13, as_15, as_16, as_17, as_19, as_20, as_21, as_22, as_23, as_25, as_26, as_27, as_28, as_29, as_30, as_31, as_32, as_33, as_34, gi_0, gi_1, gi_5, gi_8, gi_11, gi_14, gi_18, gi_24, pi_0, pi_1, pi_5, pi_8, pi_11, pi_14, pi_18, pi_24, rc_0, rc_1, rc_5, rc_8, rc_11, rc_14, rc_18, rc_24, ln_2, ln_3, ln_4, ln_7, ln_10, ln_13, ln_15, ln_16, ln_17, ln_19, ln_20, ln_21, ln_22, ln_23, ln_25, ln_26, ln_27, ln_28, ln_29, ln_30, ln_31, ln_32, ln_33, ln_34, ln_6, ln_9, ln_12, ciN, cvN, lt_eq, nn_none, nn_some, setI_1, setI_at, setI_R, upd2_at, I_add, I_addn, Int32.neg_neg, I_mul, I_ltI, I_leI, I_eqI, I_nat, if_true, if_false, reduceIte, reduceIteN, I_difn, bz_0, bz_1, nz_I, I_rem, I_div, I_sub, l4095, l32, l63, l0, l1, l2, l3, l4, l5, l6, l7, l8, l9, l10, l11, l12, l16, l24, l28, l31, l40, l48, l57, l64, l68, l78, l79, l99, l255, l2000, l2187, l1000000000, ed]
        exact Eq.trans a1 r1
      · have edw : wds true (σ 0) j = σ 0 - j := rfl
        rw [edw] at ed a1
        simp only [if_true] at a1 r1 ⊢
        simp (disch := first | assumption | exact FX_setI ‹_› | exact FX_setI (FX_setI ‹_›) | exact FX_setI (FX_setI (FX_setI ‹_›)) | exact FX_setI (FX_setI (FX_setI (FX_setI ‹_›))) | omega) only [gr_0_0, gr_0_1, gr_0_2, gr_0_3, gr_0_4, gr_0_5, gr_0_6, gr_0_7, gr_1_0, gr_1_5, gr_1_7, gr_5_3, gr_5_9, gr_8_3, gr_8_9, gr_11_3, gr_11_9, gr_14_0, gr_14_1, gr_14_2, gr_18_0, gr_18_1, gr_18_2, gr_24_0, gr_24_1, gr_24_2, gr_24_3, gr_24_5, gr_24_6, gr_24_10, gr_24_11, gr_24_12, gr_24_15, al_2, al_3, al_4, al_7, al_10, al_13, al_15, al_16, al_17, al_19, al_20, al_21, al_22, al_23, al_25, al_26, al_27, al_28, al_29, al_30, al_31, al_32, al_33, al_34, as_2, as_3, as_4, as_7, as_10, as_13, as_15, as_16, as_17, as_19, as_20, as_21, as_22, as_23, as_25, as_26, as_27, as_28, as_29, as_30, as_31, as_32, as_33, as_34, gi_0, gi_1, gi_5, gi_8, gi_11, gi_14, gi_18, gi_24, pi_0, pi_1, pi_5, pi_8, pi_11, pi_14, pi_18, pi_24, rc_0, rc_1, rc_5, rc_8, rc_11, rc_14, rc_18, rc_24, ln_2, ln_3, ln_4, ln_7, ln_10, ln_13, ln_15, ln_16, ln_17, ln_19, ln_20, ln_21, ln_22, ln_23, ln_25, ln_26, ln_27, ln_28, ln_29, ln_30, ln_31, ln_32, ln_33, ln_34, ln_6, ln_9, ln_12, ciN, cvN, lt_eq, nn_none, nn_some, setI_1, setI_at, setI_R, upd2_at, I_add, I_addn, Int32.neg_neg, I_mul, I_ltI, I_leI, I_eqI, I_nat, if_true, if_false, reduceIte, reduceIteN, I_difn, bz_0, bz_1, nz_I, I_rem, I_div, I_sub, l4095, l32, l63, l0, l1, l2, l3, l4, l5, l6, l7, l8, l9, l10, l11, l12, l16, l24, l28, l31, l40, l48, l57, l64, l68, l78, l79, l99, l255, l2000, l2187, l1000000000, ed]
        exact Eq.trans a1 r1
def wans (σ : Nat → Nat) (b : Bool) (s d : Nat) : Nat := ak (σ 1) b (σ 0) (fun m => dgt (σ 1) s (m - 1)) (σ 0) d
theorem m_findsWay {σ : Nat → Nat} {h : Hp} (W : WF σ) (M : MS h σ) {s : Nat} (hs : s < 2147483648) (b : Bool) : ∃ h', P_X6_findsWay 24 (I s) (if b then I 0 else I 1) h = some h' ∧ FxA [31, 32] h h' ∧ AR h' 31 (wans σ b s) (σ 0) := by
  have hcol := W.col
  have hn0 := W.1
  have hdg : ∀ m, (fun m => dgt (σ 1) s (m - 1)) m < σ 1 := fun m => dgt_lt (by omega) _ _
  obtain ⟨h1, a1, a2, a3⟩ := m_way_L13 W hs (if b then I 0 else I 1) (fun h3 => lt (0 : Int32) fun v13 => P_X6_findsWay_L55 FU 24 (if b then I 0 else I 1) (I (σ 0)) v13 h3) (σ 0) 0 FU h (by omega) (by have := FU_eq; omega) M (fun m h1 h2 => by omega)
  rw [Nat.pow_zero, Nat.div_one] at a1
  obtain ⟨h', r1, r2, r3⟩ := m_way_L55 W hdg (b := b) (σ 0) 0 FU h1 (by omega) (by have := FU_eq; omega) (MS_fx a2 (by simp) M) a3 (fun m h1 h2 hd => by
    exfalso
    unfold wdn at hd
    cases b
    · simp only [Bool.false_eq_true, if_false] at hd; omega
    · simp only [if_true] at hd; omega)
  obtain ⟨F, hs2⟩ := id M
  refine ⟨h', ?_, (a2.up (by simp)).tr r2, r3⟩
  unfold P_X6_findsWay
  simp (disch := first | assumption | exact FX_setI ‹_› | exact FX_setI (FX_setI ‹_›) | exact FX_setI (FX_setI (FX_setI ‹_›)) | exact FX_setI (FX_setI (FX_setI (FX_setI ‹_›))) | omega) only [gr_0_0, gr_0_1, gr_0_2, gr_0_3, gr_0_4, gr_0_5, gr_0_6, gr_0_7, gr_1_0, gr_1_5, gr_1_7, gr_5_3, gr_5_9, gr_8_3, gr_8_9, gr_11_3, gr_11_9, gr_14_0, gr_14_1, gr_14_2, gr_18_0, gr_18_1, gr_18_2, gr_24_0, gr_24_1, gr_24_2, gr_24_3, gr_24_5, gr_24_6, gr_24_10, gr_24_11, gr_24_12, gr_24_15, al_2, al_3, al_4, al_7, al_10, al_13, al_15, al_16, al_17, al_19, al_20, al_21, al_22, al_23, al_25, al_26, al_27, al_28, al_29, al_30, al_31, al_32, al_33, al_34, as_2, as_3, as_4, as_7, as_10, as_13, as_15, as_16, as_17, as_19, as_20, as_21, as_22, as_23, as_25, as_26, as_27, as_28, as_29, as_30, as_31, as_32, as_33, as_34, gi_0, gi_1, gi_5, gi_8, gi_11, gi_14, gi_18, gi_24, pi_0, pi_1, pi_5, pi_8, pi_11, pi_14, pi_18, pi_24, rc_0, rc_1, rc_5, rc_8, rc_11, rc_14, rc_18, rc_24, ln_2, ln_3, ln_4, ln_7, ln_10, ln_13, ln_15, ln_16, ln_17, ln_19, ln_20, ln_21, ln_22, ln_23, ln_25, ln_26, ln_27, ln_28, ln_29, ln_30, ln_31, ln_32, ln_33, ln_34, ln_6, ln_9, ln_12, ciN, cvN, lt_eq, nn_none, nn_some, setI_1, setI_at, setI_R, upd2_at, I_add, I_addn, Int32.neg_neg, I_mul, I_ltI, I_leI, I_eqI, I_nat, if_true, if_false, reduceIte, reduceIteN, I_difn, bz_0, bz_1, nz_I, I_rem, I_div, I_sub, l4095, l32, l63, l0, l1, l2, l3, l4, l5, l6, l7, l8, l9, l10, l11, l12, l16, l24, l28, l31, l40, l48, l57, l64, l68, l78, l79, l99, l255, l2000, l2187, l1000000000, hs2]
  refine Eq.trans a1 ?_
  rw [lt_eq]
  exact r1
theorem c_solve {σ : Nat → Nat} {h : Hp} (W : WF σ) (F : FX h) (C : CO h 5 σ) {s : Nat} (b : Bool) (A : AR h 22 (fun m => dgt (σ 1) s (m - 1)) (σ 0)) : ∃ h', (if b then P_X5_solveByDivisors 0 h else P_X5_solveByMultiples 0 h) = some h' ∧ FxA [22] h h' ∧ AR h' 22 (wans σ b s) (σ 0) := by
  have hcol := W.col
  have hn0 := W.1
  have hdg : ∀ m, (fun m => dgt (σ 1) s (m - 1)) m < σ 1 := fun m => dgt_lt (by omega) _ _
  have k0 := C.1.1
  cases b
  · obtain ⟨h', r1, r2, r3⟩ := c_mul_L2 W hdg (σ 0) 0 FU h (by omega) (by have := FU_eq; omega) F C A
    refine ⟨h', ?_, r2, r3⟩
    rw [if_neg (by decide)]
    unfold P_X5_solveByMultiples
    exact r1
  · obtain ⟨h', r1, r2, r3⟩ := c_div2_L8 W hdg (σ 0) 0 FU h (by omega) (by have := FU_eq; omega) F C A
    refine ⟨h', ?_, r2, r3⟩
    rw [if_pos rfl]
    unfold P_X5_solveByDivisors
    simp (disch := first | assumption | exact FX_setI ‹_› | exact FX_setI (FX_setI ‹_›) | exact FX_setI (FX_setI (FX_setI ‹_›)) | exact FX_setI (FX_setI (FX_setI (FX_setI ‹_›))) | omega) only [gr_0_0, gr_0_1, gr_0_2, gr_0_3, gr_0_4, gr_0_5, gr_0_6, gr_0_7, gr_1_0, gr_1_5, gr_1_7, gr_5_3, gr_5_9, gr_8_3, gr_8_9, gr_11_3, gr_11_9, gr_14_0, gr_14_1, gr_14_2, gr_18_0, gr_18_1, gr_18_2, gr_24_0, gr_24_1, gr_24_2, gr_24_3, gr_24_5, gr_24_6, gr_24_10, gr_24_11, gr_24_12, gr_24_15, al_2, al_3, al_4, al_7, al_10, al_13, al_15, al_16, al_17, al_19, al_20, al_21, al_22, al_23, al_25, al_26, al_27, al_28, al_29, al_30, al_31, al_32, al_33, al_34, as_2, as_3, as_4, as_7, as_10, as_13, as_15, as_16, as_17, as_19, as_20, as_21, as_22, as_23, as_25, as_26, as_27, as_28, as_29, as_30, as_31, as_32, as_33, as_34, gi_0, gi_1, gi_5, gi_8, gi_11, gi_14, gi_18, gi_24, pi_0, pi_1, pi_5, pi_8, pi_11, pi_14, pi_18, pi_24, rc_0, rc_1, rc_5, rc_8, rc_11, rc_14, rc_18, rc_24, ln_2, ln_3, ln_4, ln_7, ln_10, ln_13, ln_15, ln_16, ln_17, ln_19, ln_20, ln_21, ln_22, ln_23, ln_25, ln_26, ln_27, ln_28, ln_29, ln_30, ln_31, ln_32, ln_33, ln_34, ln_6, ln_9, ln_12, ciN, cvN, lt_eq, nn_none, nn_some, setI_1, setI_at, setI_R, upd2_at, I_add, I_addn, Int32.neg_neg, I_mul, I_ltI, I_leI, I_eqI, I_nat, if_true, if_false, reduceIte, reduceIteN, I_difn, bz_0, bz_1, nz_I, I_rem, I_div, I_sub, l4095, l32, l63, l0, l1, l2, l3, l4, l5, l6, l7, l8, l9, l10, l11, l12, l16, l24, l28, l31, l40, l48, l57, l64, l68, l78, l79, l99, l255, l2000, l2187, l1000000000, k0]
    exact r1
theorem s_way (a1 a2 a3 : Int32) : Step (P_X5_way 0 a1 a2 a3) (P_X6_way 24 a1 a2 a3) := by
  intro h ⟨σ, im, n, t, ρ, G, C, M⟩
  have W := G.1
  have F := C.1
  have CC := C.2.1
  have hn0 := W.1
  have hcol := W.col
  have pb := pow_bd hcol.2 hn0.2
  have k0 := CC.1.1
  have k1 := CC.1.2.1
  have hpo := c_power (h := h) (b := σ 1) (e := σ 0) (by omega)
  have hmp := fun (h' : Hp) (M' : MS h' σ) => m_power W (MSc M') (e := σ 0) (by omega)
  rcases in_cases a1 (show σ 1 ^ σ 0 < 2147483648 by omega) with ⟨s, hs, rfl⟩ | hno
  · have hisn := fun (h' : Hp) => m_isIn (h := h') (a := s) (b := σ 1 ^ σ 0) (by omega) (by omega)
    simp only [hs, if_true] at hisn
    rcases in1_cases a2 (show σ 0 < 2147483648 by omega) with ⟨d, d1, d2, rfl⟩ | hno2
    · have hd := c_hasDoor_in F W CC d1 d2
      have main : ∀ (b : Bool), a3 = (if b then I 1 else I 0) → ∃ r h1 h2, P_X5_way 0 (I s) (I d) a3 h = some (r, h1) ∧ P_X6_way 24 (I s) (I d) a3 h1 = some (r, h2) ∧ FX h1 ∧ Inv h2 := by
        intro b hb
        obtain ⟨h1, x1, x2, x3⟩ := c_spread W F CC (s := s) (by omega)
        obtain ⟨h2, y1, y2, y3⟩ := c_solve W (x2.fx F) (CO_fx x2 (by simp) CC) b x3
        have F1 := x2.fx F
        have F2 := y2.fx F1
        have y4 := y3 d d1 d2
        refine go_ok (Ac := [22]) (Am := [31, 32]) (by simp) (by simp) G C M ⟨I (wans σ b s d), h2, ?_, x2.tr y2, fun h' M' => ?_⟩
        · unfold P_X5_way
          cases b
          · simp only [Bool.false_eq_true, if_false] at hb y1
            subst hb
            simp (disch := first | assumption | exact FX_setI ‹_› | exact FX_setI (FX_setI ‹_›) | exact FX_setI (FX_setI (FX_setI ‹_›)) | exact FX_setI (FX_setI (FX_setI (FX_setI ‹_›))) | omega) only [gr_0_0, gr_0_1, gr_0_2, gr_0_3, gr_0_4, gr_0_5, gr_0_6, gr_0_7, gr_1_0, gr_1_5, gr_1_7, gr_5_3, gr_5_9, gr_8_3, gr_8_9, gr_11_3, gr_11_9, gr_14_0, gr_14_1, gr_14_2, gr_18_0, gr_18_1, gr_18_2, gr_24_0, gr_24_1, gr_24_2, gr_24_3, gr_24_5, gr_24_6, gr_24_10, gr_24_11, gr_24_12, gr_24_15, al_2, al_3, al_4, al_7, al_10, al_13, al_15, al_16, al_17, al_19, al_20, al_21, al_22, al_23, al_25, al_26, al_27, al_28, al_29, al_30, al_31, al_32, al_33, al_34, as_2, as_3, as_4, as_7, as_10, as_13, as_15, as_16, as_17, as_19, as_20, as_21, as_22, as_23, as_25, as_26, as_27, as_28, as_29, as_30, as_31, as_32, as_33, as_34, gi_0, gi_1, gi_5, gi_8, gi_11, gi_14, gi_18, gi_24, pi_0, pi_1, pi_5, pi_8, pi_11, pi_14, pi_18, pi_24, rc_0, rc_1, rc_5, rc_8, rc_11, rc_14, rc_18, rc_24, ln_2, ln_3, ln_4, ln_7, ln_10, ln_13, ln_15, ln_16, ln_17, ln_19, ln_20, ln_21, ln_22, ln_23, ln_25, ln_26, ln_27, ln_28, ln_29, ln_30, ln_31, ln_32, ln_33, ln_34, ln_6, ln_9, ln_12, ciN, cvN, lt_eq, nn_none, nn_some, setI_1, setI_at, setI_R, upd2_at, I_add, I_addn, Int32.neg_neg, I_mul, I_ltI, I_leI, I_eqI, I_nat, if_true, if_false, reduceIte, reduceIteN, I_difn, bz_0, bz_1, nz_I, I_rem, I_div, I_sub, l4095, l32, l63, l0, l1, l2, l3, l4, l5, l6, l7, l8, l9, l10, l11, l12, l16, l24, l28, l31, l40, l48, l57, l64, l68, l78, l79, l99, l255, l2000, l2187, l1000000000, k0, k1, hpo, hd, x1, y1, y4]
          · simp only [if_true] at hb y1
            subst hb
            simp (disch := first | assumption | exact FX_setI ‹_› | exact FX_setI (FX_setI ‹_›) | exact FX_setI (FX_setI (FX_setI ‹_›)) | exact FX_setI (FX_setI (FX_setI (FX_setI ‹_›))) | omega) only [gr_0_0, gr_0_1, gr_0_2, gr_0_3, gr_0_4, gr_0_5, gr_0_6, gr_0_7, gr_1_0, gr_1_5, gr_1_7, gr_5_3, gr_5_9, gr_8_3, gr_8_9, gr_11_3, gr_11_9, gr_14_0, gr_14_1, gr_14_2, gr_18_0, gr_18_1, gr_18_2, gr_24_0, gr_24_1, gr_24_2, gr_24_3, gr_24_5, gr_24_6, gr_24_10, gr_24_11, gr_24_12, gr_24_15, al_2, al_3, al_4, al_7, al_10, al_13, al_15, al_16, al_17, al_19, al_20, al_21, al_22, al_23, al_25, al_26, al_27, al_28, al_29, al_30, al_31, al_32, al_33, al_34, as_2, as_3, as_4, as_7, as_10, as_13, as_15, as_16, as_17, as_19, as_20, as_21, as_22, as_23, as_25, as_26, as_27, as_28, as_29, as_30, as_31, as_32, as_33, as_34, gi_0, gi_1, gi_5, gi_8, gi_11, gi_14, gi_18, gi_24, pi_0, pi_1, pi_5, pi_8, pi_11, pi_14, pi_18, pi_24, rc_0, rc_1, rc_5, rc_8, rc_11, rc_14, rc_18, rc_24, ln_2, ln_3, ln_4, ln_7, ln_10, ln_13, ln_15, ln_16, ln_17, ln_19, ln_20, ln_21, ln_22, ln_23, ln_25, ln_26, ln_27, ln_28, ln_29, ln_30, ln_31, ln_32, ln_33, ln_34, ln_6, ln_9, ln_12, ciN, cvN, lt_eq, nn_none, nn_some, setI_1, setI_at, setI_R, upd2_at, I_add, I_addn, Int32.neg_neg, I_mul, I_ltI, I_leI, I_eqI, I_nat, if_true, if_false, reduceIte, reduceIteN, I_difn, bz_0, bz_1, nz_I, I_rem, I_div, I_sub, l4095, l32, l63, l0, l1, l2, l3, l4, l5, l6, l7, l8, l9, l10, l11, l12, l16, l24, l28, l31, l40, l48, l57, l64, l68, l78, l79, l99, l255, l2000, l2187, l1000000000, k0, k1, hpo, hd, x1, y1, y4]
        · have hdo := m_isDoor_in W M' d1 d2
          have hi3 := m_isIn (h := h') (a := if b then 1 else 0) (b := 2) (by cases b <;> decide) (by decide)
          have hi4 : P_X6_isIn a3 (I 2) h' = some (I 1, h') := by
            rw [hb]
            cases b
            · exact hi3
            · exact hi3
          obtain ⟨h3, z1, z2, z3⟩ := m_findsWay W M' (s := s) (by omega) b
          have z4 := z3 d d1 d2
          obtain ⟨F', hs'⟩ := id M'
          have F3 := z2.fx F'
          refine ⟨h3, ?_, z2, MS_fx z2 (by simp) M', e24_of z2 (by simp)⟩
          unfold P_X6_way
          cases b
          · simp only [Bool.false_eq_true, if_false] at hb z1
            subst hb
            simp (disch := first | assumption | exact FX_setI ‹_› | exact FX_setI (FX_setI ‹_›) | exact FX_setI (FX_setI (FX_setI ‹_›)) | exact FX_setI (FX_setI (FX_setI (FX_setI ‹_›))) | omega) only [gr_0_0, gr_0_1, gr_0_2, gr_0_3, gr_0_4, gr_0_5, gr_0_6, gr_0_7, gr_1_0, gr_1_5, gr_1_7, gr_5_3, gr_5_9, gr_8_3, gr_8_9, gr_11_3, gr_11_9, gr_14_0, gr_14_1, gr_14_2, gr_18_0, gr_18_1, gr_18_2, gr_24_0, gr_24_1, gr_24_2, gr_24_3, gr_24_5, gr_24_6, gr_24_10, gr_24_11, gr_24_12, gr_24_15, al_2, al_3, al_4, al_7, al_10, al_13, al_15, al_16, al_17, al_19, al_20, al_21, al_22, al_23, al_25, al_26, al_27, al_28, al_29, al_30, al_31, al_32, al_33, al_34, as_2, as_3, as_4, as_7, as_10, as_13, as_15, as_16, as_17, as_19, as_20, as_21, as_22, as_23, as_25, as_26, as_27, as_28, as_29, as_30, as_31, as_32, as_33, as_34, gi_0, gi_1, gi_5, gi_8, gi_11, gi_14, gi_18, gi_24, pi_0, pi_1, pi_5, pi_8, pi_11, pi_14, pi_18, pi_24, rc_0, rc_1, rc_5, rc_8, rc_11, rc_14, rc_18, rc_24, ln_2, ln_3, ln_4, ln_7, ln_10, ln_13, ln_15, ln_16, ln_17, ln_19, ln_20, ln_21, ln_22, ln_23, ln_25, ln_26, ln_27, ln_28, ln_29, ln_30, ln_31, ln_32, ln_33, ln_34, ln_6, ln_9, ln_12, ciN, cvN, lt_eq, nn_none, nn_some, setI_1, setI_at, setI_R, upd2_at, I_add, I_addn, Int32.neg_neg, I_mul, I_ltI, I_leI, I_eqI, I_nat, if_true, if_false, reduceIte, reduceIteN, I_difn, bz_0, bz_1, nz_I, I_rem, I_div, I_sub, l4095, l32, l63, l0, l1, l2, l3, l4, l5, l6, l7, l8, l9, l10, l11, l12, l16, l24, l28, l31, l40, l48, l57, l64, l68, l78, l79, l99, l255, l2000, l2187, l1000000000, hs', hmp h' M', hisn, hdo, hi4, z1, z4]
          · simp only [if_true] at hb z1
            subst hb
            simp (disch := first | assumption | exact FX_setI ‹_› | exact FX_setI (FX_setI ‹_›) | exact FX_setI (FX_setI (FX_setI ‹_›)) | exact FX_setI (FX_setI (FX_setI (FX_setI ‹_›))) | omega) only [gr_0_0, gr_0_1, gr_0_2, gr_0_3, gr_0_4, gr_0_5, gr_0_6, gr_0_7, gr_1_0, gr_1_5, gr_1_7, gr_5_3, gr_5_9, gr_8_3, gr_8_9, gr_11_3, gr_11_9, gr_14_0, gr_14_1, gr_14_2, gr_18_0, gr_18_1, gr_18_2, gr_24_0, gr_24_1, gr_24_2, gr_24_3, gr_24_5, gr_24_6, gr_24_10, gr_24_11, gr_24_12, gr_24_15, al_2, al_3, al_4, al_7, al_10, al_13, al_15, al_16, al_17, al_19, al_20, al_21, al_22, al_23, al_25, al_26, al_27, al_28, al_29, al_30, al_31, al_32, al_33, al_34, as_2, as_3, as_4, as_7, as_10, as_13, as_15, as_16, as_17, as_19, as_20, as_21, as_22, as_23, as_25, as_26, as_27, as_28, as_29, as_30, as_31, as_32, as_33, as_34, gi_0, gi_1, gi_5, gi_8, gi_11, gi_14, gi_18, gi_24, pi_0, pi_1, pi_5, pi_8, pi_11, pi_14, pi_18, pi_24, rc_0, rc_1, rc_5, rc_8, rc_11, rc_14, rc_18, rc_24, ln_2, ln_3, ln_4, ln_7, ln_10, ln_13, ln_15, ln_16, ln_17, ln_19, ln_20, ln_21, ln_22, ln_23, ln_25, ln_26, ln_27, ln_28, ln_29, ln_30, ln_31, ln_32, ln_33, ln_34, ln_6, ln_9, ln_12, ciN, cvN, lt_eq, nn_none, nn_some, setI_1, setI_at, setI_R, upd2_at, I_add, I_addn, Int32.neg_neg, I_mul, I_ltI, I_leI, I_eqI, I_nat, if_true, if_false, reduceIte, reduceIteN, I_difn, bz_0, bz_1, nz_I, I_rem, I_div, I_sub, l4095, l32, l63, l0, l1, l2, l3, l4, l5, l6, l7, l8, l9, l10, l11, l12, l16, l24, l28, l31, l40, l48, l57, l64, l68, l78, l79, l99, l255, l2000, l2187, l1000000000, hs', hmp h' M', hisn, hdo, hi4, z1, z4]
      rcases in_cases a3 (show 2 < 2147483648 by decide) with ⟨w, hw, hwe⟩ | hno3
      · have : w = 0 ∨ w = 1 := by omega
        rcases this with h0 | h0
        · exact main false (by rw [hwe, h0]; rfl)
        · exact main true (by rw [hwe, h0]; rfl)
      · have n0 : ¬ a3 = I 0 := fun z => by
          rw [z, I_ltI (by decide) (by decide), I_leI (by decide) (by decide)] at hno3; omega
        have n1' : ¬ a3 = I 1 := fun z => by
          rw [z, I_ltI (by decide) (by decide), I_leI (by decide) (by decide)] at hno3; omega
        refine ref_ok (i := 2) (by decide) G C M ?_ (fun h' M' => ?_)
        · unfold P_X5_way
          simp (disch := first | assumption | exact FX_setI ‹_› | exact FX_setI (FX_setI ‹_›) | exact FX_setI (FX_setI (FX_setI ‹_›)) | exact FX_setI (FX_setI (FX_setI (FX_setI ‹_›))) | omega) only [gr_0_0, gr_0_1, gr_0_2, gr_0_3, gr_0_4, gr_0_5, gr_0_6, gr_0_7, gr_1_0, gr_1_5, gr_1_7, gr_5_3, gr_5_9, gr_8_3, gr_8_9, gr_11_3, gr_11_9, gr_14_0, gr_14_1, gr_14_2, gr_18_0, gr_18_1, gr_18_2, gr_24_0, gr_24_1, gr_24_2, gr_24_3, gr_24_5, gr_24_6, gr_24_10, gr_24_11, gr_24_12, gr_24_15, al_2, al_3, al_4, al_7, al_10, al_13, al_15, al_16, al_17, al_19, al_20, al_21, al_22, al_23, al_25, al_26, al_27, al_28, al_29, al_30, al_31, al_32, al_33, al_34, as_2, as_3, as_4, as_7, as_10, as_13, as_15, as_16, as_17, as_19, as_20, as_21, as_22, as_23, as_25, as_26, as_27, as_28, as_29, as_30, as_31, as_32, as_33, as_34, gi_0, gi_1, gi_5, gi_8, gi_11, gi_14, gi_18, gi_24, pi_0, pi_1, pi_5, pi_8, pi_11, pi_14, pi_18, pi_24, rc_0, rc_1, rc_5, rc_8, rc_11, rc_14, rc_18, rc_24, ln_2, ln_3, ln_4, ln_7, ln_10, ln_13, ln_15, ln_16, ln_17, ln_19, ln_20, ln_21, ln_22, ln_23, ln_25, ln_26, ln_27, ln_28, ln_29, ln_30, ln_31, ln_32, ln_33, ln_34, ln_6, ln_9, ln_12, ciN, cvN, lt_eq, nn_none, nn_some, setI_1, setI_at, setI_R, upd2_at, I_add, I_addn, Int32.neg_neg, I_mul, I_ltI, I_leI, I_eqI, I_nat, if_true, if_false, reduceIte, reduceIteN, I_difn, bz_0, bz_1, nz_I, I_rem, I_div, I_sub, l4095, l32, l63, l0, l1, l2, l3, l4, l5, l6, l7, l8, l9, l10, l11, l12, l16, l24, l28, l31, l40, l48, l57, l64, l68, l78, l79, l99, l255, l2000, l2187, l1000000000, k0, k1, hpo, hd, n0, n1']
          rw [c_refuse F (show 2 < 7 by decide)]
          rfl
        · have hdo := m_isDoor_in W M'.1 d1 d2
          have hi4 := m_isIn_no (h := h') hno3
          obtain ⟨F', hs'⟩ := id M'.1
          unfold P_X6_way
          simp (disch := first | assumption | exact FX_setI ‹_› | exact FX_setI (FX_setI ‹_›) | exact FX_setI (FX_setI (FX_setI ‹_›)) | exact FX_setI (FX_setI (FX_setI (FX_setI ‹_›))) | omega) only [gr_0_0, gr_0_1, gr_0_2, gr_0_3, gr_0_4, gr_0_5, gr_0_6, gr_0_7, gr_1_0, gr_1_5, gr_1_7, gr_5_3, gr_5_9, gr_8_3, gr_8_9, gr_11_3, gr_11_9, gr_14_0, gr_14_1, gr_14_2, gr_18_0, gr_18_1, gr_18_2, gr_24_0, gr_24_1, gr_24_2, gr_24_3, gr_24_5, gr_24_6, gr_24_10, gr_24_11, gr_24_12, gr_24_15, al_2, al_3, al_4, al_7, al_10, al_13, al_15, al_16, al_17, al_19, al_20, al_21, al_22, al_23, al_25, al_26, al_27, al_28, al_29, al_30, al_31, al_32, al_33, al_34, as_2, as_3, as_4, as_7, as_10, as_13, as_15, as_16, as_17, as_19, as_20, as_21, as_22, as_23, as_25, as_26, as_27, as_28, as_29, as_30, as_31, as_32, as_33, as_34, gi_0, gi_1, gi_5, gi_8, gi_11, gi_14, gi_18, gi_24, pi_0, pi_1, pi_5, pi_8, pi_11, pi_14, pi_18, pi_24, rc_0, rc_1, rc_5, rc_8, rc_11, rc_14, rc_18, rc_24, ln_2, ln_3, ln_4, ln_7, ln_10, ln_13, ln_15, ln_16, ln_17, ln_19, ln_20, ln_21, ln_22, ln_23, ln_25, ln_26, ln_27, ln_28, ln_29, ln_30, ln_31, ln_32, ln_33, ln_34, ln_6, ln_9, ln_12, ciN, cvN, lt_eq, nn_none, nn_some, setI_1, setI_at, setI_R, upd2_at, I_add, I_addn, Int32.neg_neg, I_mul, I_ltI, I_leI, I_eqI, I_nat, if_true, if_false, reduceIte, reduceIteN, I_difn, bz_0, bz_1, nz_I, I_rem, I_div, I_sub, l4095, l32, l63, l0, l1, l2, l3, l4, l5, l6, l7, l8, l9, l10, l11, l12, l16, l24, l28, l31, l40, l48, l57, l64, l68, l78, l79, l99, l255, l2000, l2187, l1000000000, hs', hmp h' M'.1, hisn, hdo, hi4]
          rw [m_refuse F' (show 2 < 7 by decide)]
          rfl
    · refine ref_ok (i := 1) (by decide) G C M ?_ (fun h' M' => ?_)
      · have hd := c_hasDoor_no F CC hno2
        unfold P_X5_way
        simp (disch := first | assumption | exact FX_setI ‹_› | exact FX_setI (FX_setI ‹_›) | exact FX_setI (FX_setI (FX_setI ‹_›)) | exact FX_setI (FX_setI (FX_setI (FX_setI ‹_›))) | omega) only [gr_0_0, gr_0_1, gr_0_2, gr_0_3, gr_0_4, gr_0_5, gr_0_6, gr_0_7, gr_1_0, gr_1_5, gr_1_7, gr_5_3, gr_5_9, gr_8_3, gr_8_9, gr_11_3, gr_11_9, gr_14_0, gr_14_1, gr_14_2, gr_18_0, gr_18_1, gr_18_2, gr_24_0, gr_24_1, gr_24_2, gr_24_3, gr_24_5, gr_24_6, gr_24_10, gr_24_11, gr_24_12, gr_24_15, al_2, al_3, al_4, al_7, al_10, al_13, al_15, al_16, al_17, al_19, al_20, al_21, al_22, al_23, al_25, al_26, al_27, al_28, al_29, al_30, al_31, al_32, al_33, al_34, as_2, as_3, as_4, as_7, as_10, as_13, as_15, as_16, as_17, as_19, as_20, as_21, as_22, as_23, as_25, as_26, as_27, as_28, as_29, as_30, as_31, as_32, as_33, as_34, gi_0, gi_1, gi_5, gi_8, gi_11, gi_14, gi_18, gi_24, pi_0, pi_1, pi_5, pi_8, pi_11, pi_14, pi_18, pi_24, rc_0, rc_1, rc_5, rc_8, rc_11, rc_14, rc_18, rc_24, ln_2, ln_3, ln_4, ln_7, ln_10, ln_13, ln_15, ln_16, ln_17, ln_19, ln_20, ln_21, ln_22, ln_23, ln_25, ln_26, ln_27, ln_28, ln_29, ln_30, ln_31, ln_32, ln_33, ln_34, ln_6, ln_9, ln_12, ciN, cvN, lt_eq, nn_none, nn_some, setI_1, setI_at, setI_R, upd2_at, I_add, I_addn, Int32.neg_neg, I_mul, I_ltI, I_leI, I_eqI, I_nat, if_true, if_false, reduceIte, reduceIteN, I_difn, bz_0, bz_1, nz_I, I_rem, I_div, I_sub, l4095, l32, l63, l0, l1, l2, l3, l4, l5, l6, l7, l8, l9, l10, l11, l12, l16, l24, l28, l31, l40, l48, l57, l64, l68, l78, l79, l99, l255, l2000, l2187, l1000000000, k0, k1, hpo, hd]
        rw [c_refuse F (show 1 < 7 by decide)]
        rfl
      · have hdo := m_isDoor_no M'.1 hno2
        obtain ⟨F', hs'⟩ := id M'.1
        unfold P_X6_way
        simp (disch := first | assumption | exact FX_setI ‹_› | exact FX_setI (FX_setI ‹_›) | exact FX_setI (FX_setI (FX_setI ‹_›)) | exact FX_setI (FX_setI (FX_setI (FX_setI ‹_›))) | omega) only [gr_0_0, gr_0_1, gr_0_2, gr_0_3, gr_0_4, gr_0_5, gr_0_6, gr_0_7, gr_1_0, gr_1_5, gr_1_7, gr_5_3, gr_5_9, gr_8_3, gr_8_9, gr_11_3, gr_11_9, gr_14_0, gr_14_1, gr_14_2, gr_18_0, gr_18_1, gr_18_2, gr_24_0, gr_24_1, gr_24_2, gr_24_3, gr_24_5, gr_24_6, gr_24_10, gr_24_11, gr_24_12, gr_24_15, al_2, al_3, al_4, al_7, al_10, al_13, al_15, al_16, al_17, al_19, al_20, al_21, al_22, al_23, al_25, al_26, al_27, al_28, al_29, al_30, al_31, al_32, al_33, al_34, as_2, as_3, as_4, as_7, as_10, as_13, as_15, as_16, as_17, as_19, as_20, as_21, as_22, as_23, as_25, as_26, as_27, as_28, as_29, as_30, as_31, as_32, as_33, as_34, gi_0, gi_1, gi_5, gi_8, gi_11, gi_14, gi_18, gi_24, pi_0, pi_1, pi_5, pi_8, pi_11, pi_14, pi_18, pi_24, rc_0, rc_1, rc_5, rc_8, rc_11, rc_14, rc_18, rc_24, ln_2, ln_3, ln_4, ln_7, ln_10, ln_13, ln_15, ln_16, ln_17, ln_19, ln_20, ln_21, ln_22, ln_23, ln_25, ln_26, ln_27, ln_28, ln_29, ln_30, ln_31, ln_32, ln_33, ln_34, ln_6, ln_9, ln_12, ciN, cvN, lt_eq, nn_none, nn_some, setI_1, setI_at, setI_R, upd2_at, I_add, I_addn, Int32.neg_neg, I_mul, I_ltI, I_leI, I_eqI, I_nat, if_true, if_false, reduceIte, reduceIteN, I_difn, bz_0, bz_1, nz_I, I_rem, I_div, I_sub, l4095, l32, l63, l0, l1, l2, l3, l4, l5, l6, l7, l8, l9, l10, l11, l12, l16, l24, l28, l31, l40, l48, l57, l64, l68, l78, l79, l99, l255, l2000, l2187, l1000000000, hs', hmp h' M'.1, hisn, hdo]
        rw [m_refuse F' (show 1 < 7 by decide)]
        rfl
  · refine ref_ok (i := 1) (by decide) G C M ?_ (fun h' M' => ?_)
    · unfold P_X5_way
      by_cases h1 : a1 < I 0
      · simp (disch := first | assumption | exact FX_setI ‹_› | exact FX_setI (FX_setI ‹_›) | exact FX_setI (FX_setI (FX_setI ‹_›)) | exact FX_setI (FX_setI (FX_setI (FX_setI ‹_›))) | omega) only [gr_0_0, gr_0_1, gr_0_2, gr_0_3, gr_0_4, gr_0_5, gr_0_6, gr_0_7, gr_1_0, gr_1_5, gr_1_7, gr_5_3, gr_5_9, gr_8_3, gr_8_9, gr_11_3, gr_11_9, gr_14_0, gr_14_1, gr_14_2, gr_18_0, gr_18_1, gr_18_2, gr_24_0, gr_24_1, gr_24_2, gr_24_3, gr_24_5, gr_24_6, gr_24_10, gr_24_11, gr_24_12, gr_24_15, al_2, al_3, al_4, al_7, al_10, al_13, al_15, al_16, al_17, al_19, al_20, al_21, al_22, al_23, al_25, al_26, al_27, al_28, al_29, al_30, al_31, al_32, al_33, al_34, as_2, as_3, as_4, as_7, as_10, as_13, as_15, as_16, as_17, as_19, as_20, as_21, as_22, as_23, as_25, as_26, as_27, as_28, as_29, as_30, as_31, as_32, as_33, as_34, gi_0, gi_1, gi_5, gi_8, gi_11, gi_14, gi_18, gi_24, pi_0, pi_1, pi_5, pi_8, pi_11, pi_14, pi_18, pi_24, rc_0, rc_1, rc_5, rc_8, rc_11, rc_14, rc_18, rc_24, ln_2, ln_3, ln_4, ln_7, ln_10, ln_13, ln_15, ln_16, ln_17, ln_19, ln_20, ln_21, ln_22, ln_23, ln_25, ln_26, ln_27, ln_28, ln_29, ln_30, ln_31, ln_32, ln_33, ln_34, ln_6, ln_9, ln_12, ciN, cvN, lt_eq, nn_none, nn_some, setI_1, setI_at, setI_R, upd2_at, I_add, I_addn, Int32.neg_neg, I_mul, I_ltI, I_leI, I_eqI, I_nat, if_true, if_false, reduceIte, reduceIteN, I_difn, bz_0, bz_1, nz_I, I_rem, I_div, I_sub, l4095, l32, l63, l0, l1, l2, l3, l4, l5, l6, l7, l8, l9, l10, l11, l12, l16, l24, l28, l31, l40, l48, l57, l64, l68, l78, l79, l99, l255, l2000, l2187, l1000000000, h1]
        rw [c_refuse F (show 1 < 7 by decide)]
        rfl
      · have h2 := hno.resolve_left h1
        simp (disch := first | assumption | exact FX_setI ‹_› | exact FX_setI (FX_setI ‹_›) | exact FX_setI (FX_setI (FX_setI ‹_›)) | exact FX_setI (FX_setI (FX_setI (FX_setI ‹_›))) | omega) only [gr_0_0, gr_0_1, gr_0_2, gr_0_3, gr_0_4, gr_0_5, gr_0_6, gr_0_7, gr_1_0, gr_1_5, gr_1_7, gr_5_3, gr_5_9, gr_8_3, gr_8_9, gr_11_3, gr_11_9, gr_14_0, gr_14_1, gr_14_2, gr_18_0, gr_18_1, gr_18_2, gr_24_0, gr_24_1, gr_24_2, gr_24_3, gr_24_5, gr_24_6, gr_24_10, gr_24_11, gr_24_12, gr_24_15, al_2, al_3, al_4, al_7, al_10, al_13, al_15, al_16, al_17, al_19, al_20, al_21, al_22, al_23, al_25, al_26, al_27, al_28, al_29, al_30, al_31, al_32, al_33, al_34, as_2, as_3, as_4, as_7, as_10, as_13, as_15, as_16, as_17, as_19, as_20, as_21, as_22, as_23, as_25, as_26, as_27, as_28, as_29, as_30, as_31, as_32, as_33, as_34, gi_0, gi_1, gi_5, gi_8, gi_11, gi_14, gi_18, gi_24, pi_0, pi_1, pi_5, pi_8, pi_11, pi_14, pi_18, pi_24, rc_0, rc_1, rc_5, rc_8, rc_11, rc_14, rc_18, rc_24, ln_2, ln_3, ln_4, ln_7, ln_10, ln_13, ln_15, ln_16, ln_17, ln_19, ln_20, ln_21, ln_22, ln_23, ln_25, ln_26, ln_27, ln_28, ln_29, ln_30, ln_31, ln_32, ln_33, ln_34, ln_6, ln_9, ln_12, ciN, cvN, lt_eq, nn_none, nn_some, setI_1, setI_at, setI_R, upd2_at, I_add, I_addn, Int32.neg_neg, I_mul, I_ltI, I_leI, I_eqI, I_nat, if_true, if_false, reduceIte, reduceIteN, I_difn, bz_0, bz_1, nz_I, I_rem, I_div, I_sub, l4095, l32, l63, l0, l1, l2, l3, l4, l5, l6, l7, l8, l9, l10, l11, l12, l16, l24, l28, l31, l40, l48, l57, l64, l68, l78, l79, l99, l255, l2000, l2187, l1000000000, h1, k0, k1, hpo, h2]
        rw [c_refuse F (show 1 < 7 by decide)]
        rfl
    · have hi := m_isIn_no (h := h') hno
      obtain ⟨F', hs'⟩ := id M'.1
      unfold P_X6_way
      simp (disch := first | assumption | exact FX_setI ‹_› | exact FX_setI (FX_setI ‹_›) | exact FX_setI (FX_setI (FX_setI ‹_›)) | exact FX_setI (FX_setI (FX_setI (FX_setI ‹_›))) | omega) only [gr_0_0, gr_0_1, gr_0_2, gr_0_3, gr_0_4, gr_0_5, gr_0_6, gr_0_7, gr_1_0, gr_1_5, gr_1_7, gr_5_3, gr_5_9, gr_8_3, gr_8_9, gr_11_3, gr_11_9, gr_14_0, gr_14_1, gr_14_2, gr_18_0, gr_18_1, gr_18_2, gr_24_0, gr_24_1, gr_24_2, gr_24_3, gr_24_5, gr_24_6, gr_24_10, gr_24_11, gr_24_12, gr_24_15, al_2, al_3, al_4, al_7, al_10, al_13, al_15, al_16, al_17, al_19, al_20, al_21, al_22, al_23, al_25, al_26, al_27, al_28, al_29, al_30, al_31, al_32, al_33, al_34, as_2, as_3, as_4, as_7, as_10, as_13, as_15, as_16, as_17, as_19, as_20, as_21, as_22, as_23, as_25, as_26, as_27, as_28, as_29, as_30, as_31, as_32, as_33, as_34, gi_0, gi_1, gi_5, gi_8, gi_11, gi_14, gi_18, gi_24, pi_0, pi_1, pi_5, pi_8, pi_11, pi_14, pi_18, pi_24, rc_0, rc_1, rc_5, rc_8, rc_11, rc_14, rc_18, rc_24, ln_2, ln_3, ln_4, ln_7, ln_10, ln_13, ln_15, ln_16, ln_17, ln_19, ln_20, ln_21, ln_22, ln_23, ln_25, ln_26, ln_27, ln_28, ln_29, ln_30, ln_31, ln_32, ln_33, ln_34, ln_6, ln_9, ln_12, ciN, cvN, lt_eq, nn_none, nn_some, setI_1, setI_at, setI_R, upd2_at, I_add, I_addn, Int32.neg_neg, I_mul, I_ltI, I_leI, I_eqI, I_nat, if_true, if_false, reduceIte, reduceIteN, I_difn, bz_0, bz_1, nz_I, I_rem, I_div, I_sub, l4095, l32, l63, l0, l1, l2, l3, l4, l5, l6, l7, l8, l9, l10, l11, l12, l16, l24, l28, l31, l40, l48, l57, l64, l68, l78, l79, l99, l255, l2000, l2187, l1000000000, hs', hmp h' M'.1, hi]
      rw [m_refuse F' (show 1 < 7 by decide)]
      rfl
