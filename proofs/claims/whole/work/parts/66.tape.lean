/-! The text of a house, told in naturals -/
def isc (t : Nat → Nat) (n i c : Nat) : Bool := decide (i < n) && decide (t i = c)
def isd (t : Nat → Nat) (n i : Nat) : Bool := decide (i < n) && (decide (48 ≤ t i) && decide (t i ≤ 57))
def dcn (t : Nat → Nat) (n : Nat) : Nat → Nat → Nat
  | _, 0 => 0
  | i, m + 1 => if isd t n i = true then dcn t n (i + 1) m + 1 else 0
theorem dcn_succ (t : Nat → Nat) (n i m : Nat) : dcn t n i (m + 1) = if isd t n i = true then dcn t n (i + 1) m + 1 else 0 := rfl
def dva (t : Nat → Nat) : Nat → Nat → Nat → Nat
  | _, 0, a => a
  | i, k + 1, a => dva t (i + 1) k (a * 10 + (t i - 48))
theorem dva_succ (t : Nat → Nat) (i k a : Nat) : dva t i (k + 1) a = dva t (i + 1) k (a * 10 + (t i - 48)) := rfl
def kdn (c : Nat) : Nat := if c = 98 then 2 else if c = 100 then 1 else if c = 101 then 3 else if c = 109 then 0 else if c = 117 then 5 else if c = 120 then 4 else 6
def tkS (t : Nat → Nat) (n c i : Nat) : Bool × Nat := if isc t n i c = true then (true, i + 1) else (false, i)
def rdS (t : Nat → Nat) (n m i : Nat) : Bool × Nat := (decide (0 < dcn t n i m), i + dcn t n i m)
def kdS (t : Nat → Nat) (n i : Nat) : Bool × Nat := if (decide (i < n) && decide (kdn (t i) < 6)) = true then (true, i + 1) else (false, i)
def bnd (x : Bool × Nat) (f : Nat → Bool × Nat) : Bool × Nat := if x.1 = true then f x.2 else x
def rsP (t : Nat → Nat) (n i : Nat) : Bool × Nat := bnd (kdS t n i) fun j => bnd (rdS t n 2 j) fun j => bnd (tkS t n 44 j) fun j => bnd (rdS t n 2 j) fun j => bnd (tkS t n 44 j) fun j => bnd (rdS t n 1 j) fun j => tkS t n 59 j
def rsD (t : Nat → Nat) (n m i : Nat) : Bool × Nat := bnd (rdS t n m i) fun j => tkS t n 59 j
def hds (c : Nat) : Nat := if c = 110 ∨ c = 115 then 2 else if c = 107 then 1 else if c = 119 ∨ c = 104 then 12 else 0
/-- reading a statement from the i-th letter: is it one, and where the reading stands then -/
def rsS (t : Nat → Nat) (n i : Nat) : Bool × Nat :=
  if i < n ∧ t i = 112 then rsP t n (i + 1) else if i < n ∧ 0 < hds (t i) then rsD t n (hds (t i)) (i + 1) else (false, i)
def bi (b : Bool) : Int32 := if b = true then I 1 else I 0
theorem bi_t : bi true = I 1 := rfl
theorem bi_f : bi false = I 0 := rfl
def OUT (A : List Nat) (T : Hp → Prop) (pa ka : Nat) (o : Option (Int32 × Hp)) (h : Hp) (x : Bool × Nat) (D : Hp → Prop) : Prop :=
  ∃ h', o = some (bi x.1, h') ∧ FxA A h h' ∧ T h' ∧ h'.2.1 pa ka = I x.2 ∧ (x.1 = true → D h')
theorem OUT_bnd {A : List Nat} {T : Hp → Prop} {pa ka : Nat} {o : Option (Int32 × Hp)} {h : Hp} {x : Bool × Nat} {D1 D : Hp → Prop} {f : Nat → Bool × Nat} {K : Hp → Option (Int32 × Hp)} (a : OUT A T pa ka o h x D1) (hK : ∀ h1, FxA A h h1 → T h1 → h1.2.1 pa ka = I x.2 → D1 h1 → OUT A T pa ka (K h1) h1 (f x.2) D) :
    OUT A T pa ka (ci o (fun v h' => if v = 0 then some (0, h') else K h')) h (bnd x f) D := by
  obtain ⟨h1, a1, a2, a3, a4, a5⟩ := a
  rw [a1, ci_some]
  unfold bnd
  cases hx : x.1
  · rw [if_neg Bool.false_ne_true, bi_f, if_pos (by rfl)]
    exact ⟨h1, by rw [hx]; rfl, a2, a3, a4, fun z => by rw [hx] at z; cases z⟩
  · rw [if_pos rfl, bi_t, if_neg (by decide)]
    obtain ⟨h2, b1, b2, b3, b4, b5⟩ := hK h1 a2 a3 a4 (a5 hx)
    exact ⟨h2, b1, a2.tr b2, b3, b4, b5⟩
theorem OUT_last {A : List Nat} {T : Hp → Prop} {pa ka : Nat} {o : Option (Int32 × Hp)} {h : Hp} {x : Bool × Nat} {D1 D : Hp → Prop} (a : OUT A T pa ka o h x D1) (hD : ∀ h1, FxA A h h1 → T h1 → D1 h1 → D h1) :
    OUT A T pa ka (ci o (fun v h' => if v = 0 then some (0, h') else some (1, h'))) h x D := by
  obtain ⟨h1, a1, a2, a3, a4, a5⟩ := a
  rw [a1, ci_some]
  refine ⟨h1, ?_, a2, a3, a4, fun z => hD h1 a2 a3 (a5 z)⟩
  cases hx : x.1
  · rw [bi_f, if_pos (by rfl)]; rfl
  · rw [bi_t, if_neg (by decide)]; rfl
theorem OUT_pre {A : List Nat} {T : Hp → Prop} {pa ka : Nat} {o : Option (Int32 × Hp)} {h h1 : Hp} {x : Bool × Nat} {D : Hp → Prop} (a : FxA A h h1) (b : OUT A T pa ka o h1 x D) : OUT A T pa ka o h x D := by
  obtain ⟨h2, b1, b2, b3, b4, b5⟩ := b
  exact ⟨h2, b1, a.tr b2, b3, b4, b5⟩
theorem neg1_ne {c : Nat} (hc : c < 2147483648) : ¬ -I 1 = I c := by
  intro h
  have := congrArg Int32.toInt h
  rw [I_int hc] at this
  have h1 : (-I 1 : Int32).toInt = -1 := by decide
  omega
theorem neg1_lt {c : Nat} (hc : c < 2147483648) : -I 1 < I c := by
  rw [Int32.lt_iff_toInt_lt, I_int hc]
  have h1 : (-I 1 : Int32).toInt = -1 := by decide
  omega
-- ===== the class's reader =====
def TC (t : Nat → Nat) (n : Nat) (hd : Int32) (h : Hp) : Prop := FX h ∧ h.2.1 1 1 = I n ∧ (∀ i, i < n → h.2.1 2 i = I (t i)) ∧ h.2.1 1 3 = hd
def A3 : List Nat := [1, 3, 4]
/-- the sign at a place -/
def sg (t : Nat → Nat) (n i : Nat) : Int32 := if i < n then I (t i) else -I 1
theorem c_sign {t : Nat → Nat} {n i : Nat} {hd : Int32} {h : Hp} (hn : n ≤ 64) (T : TC t n hd h) (ha : h.2.1 1 2 = I i) (hi : i < 1000) : P_X3_signHere 1 h = some (sg t n i, h) := by
  obtain ⟨F, k1, k2, k3⟩ := T
  unfold P_X3_signHere sg
  by_cases h1 : i < n
  · have h2 := k2 i h1
    simp (disch := first | assumption | exact FX_setI ‹_› | exact FX_setI (FX_setI ‹_›) | exact FX_setI (FX_setI (FX_setI ‹_›)) | exact FX_setI (FX_setI (FX_setI (FX_setI ‹_›))) | omega) only [gr_0_0, gr_0_1, gr_0_2, gr_0_3, gr_0_4, gr_0_5, gr_0_6, gr_0_7, gr_1_0, gr_1_5, gr_1_7, gr_5_3, gr_5_9, gr_8_3, gr_8_9, gr_11_3, gr_11_9, gr_14_0, gr_14_1, gr_14_2, gr_18_0, gr_18_1, gr_18_2, gr_24_0, gr_24_1, gr_24_2, gr_24_3, gr_24_5, gr_24_6, gr_24_10, gr_24_11, gr_24_12, gr_24_15, al_2, al_3, al_4, al_7, al_10, al_13, al_15, al_16, al_17, al_19, al_20, al_21, al_22, al_23, al_25, al_26, al_27, al_28, al_29, al_30, al_31, al_32, al_33, al_34, as_2, as_3, as_4, as_7, as_10, as_13, as_15, as_16, as_17, as_19, as_20, as_21, as_22, as_23, as_25, as_26, as_27, as_28, as_29, as_30, as_31, as_32, as_33, as_34, gi_0, gi_1, gi_5, gi_8, gi_11, gi_14, gi_18, gi_24, pi_0, pi_1, pi_5, pi_8, pi_11, pi_14, pi_18, pi_24, rc_0, rc_1, rc_5, rc_8, rc_11, rc_14, rc_18, rc_24, ln_2, ln_3, ln_4, ln_7, ln_10, ln_13, ln_15, ln_16, ln_17, ln_19, ln_20, ln_21, ln_22, ln_23, ln_25, ln_26, ln_27, ln_28, ln_29, ln_30, ln_31, ln_32, ln_33, ln_34, ln_6, ln_9, ln_12, ciN, cvN, lt_eq, nn_none, nn_some, setI_1, setI_at, setI_R, upd2_at, I_add, I_addn, Int32.neg_neg, I_mul, I_ltI, I_leI, I_eqI, I_nat, if_true, if_false, reduceIte, reduceIteN, I_difn, bz_0, bz_1, nz_I, I_rem, I_div, I_sub, l4095, l32, l63, l0, l1, l2, l3, l4, l5, l6, l7, l8, l9, l10, l11, l12, l16, l24, l28, l31, l40, l48, l57, l64, l68, l78, l79, l99, l255, l2000, l2187, l1000000000, ha, k1, h2]
  · simp (disch := first | assumption | exact FX_setI ‹_› | exact FX_setI (FX_setI ‹_›) | exact FX_setI (FX_setI (FX_setI ‹_›)) | exact FX_setI (FX_setI (FX_setI (FX_setI ‹_›))) | omega) only [gr_0_0, gr_0_1, gr_0_2, gr_0_3, gr_0_4, gr_0_5, gr_0_6, gr_0_7, gr_1_0, gr_1_5, gr_1_7, gr_5_3, gr_5_9, gr_8_3, gr_8_9, gr_11_3, gr_11_9, gr_14_0, gr_14_1, gr_14_2, gr_18_0, gr_18_1, gr_18_2, gr_24_0, gr_24_1, gr_24_2, gr_24_3, gr_24_5, gr_24_6, gr_24_10, gr_24_11, gr_24_12, gr_24_15, al_2, al_3, al_4, al_7, al_10, al_13, al_15, al_16, al_17, al_19, al_20, al_21, al_22, al_23, al_25, al_26, al_27, al_28, al_29, al_30, al_31, al_32, al_33, al_34, as_2, as_3, as_4, as_7, as_10, as_13, as_15, as_16, as_17, as_19, as_20, as_21, as_22, as_23, as_25, as_26, as_27, as_28, as_29, as_30, as_31, as_32, as_33, as_34, gi_0, gi_1, gi_5, gi_8, gi_11, gi_14, gi_18, gi_24, pi_0, pi_1, pi_5, pi_8, pi_11, pi_14, pi_18, pi_24, rc_0, rc_1, rc_5, rc_8, rc_11, rc_14, rc_18, rc_24, ln_2, ln_3, ln_4, ln_7, ln_10, ln_13, ln_15, ln_16, ln_17, ln_19, ln_20, ln_21, ln_22, ln_23, ln_25, ln_26, ln_27, ln_28, ln_29, ln_30, ln_31, ln_32, ln_33, ln_34, ln_6, ln_9, ln_12, ciN, cvN, lt_eq, nn_none, nn_some, setI_1, setI_at, setI_R, upd2_at, I_add, I_addn, Int32.neg_neg, I_mul, I_ltI, I_leI, I_eqI, I_nat, if_true, if_false, reduceIte, reduceIteN, I_difn, bz_0, bz_1, nz_I, I_rem, I_div, I_sub, l4095, l32, l63, l0, l1, l2, l3, l4, l5, l6, l7, l8, l9, l10, l11, l12, l16, l24, l28, l31, l40, l48, l57, l64, l68, l78, l79, l99, l255, l2000, l2187, l1000000000, ha, k1]
theorem sg_is {t : Nat → Nat} {n i c : Nat} (ht : ∀ i, i < n → t i ≤ 255) (hc : c < 256) : (sg t n i = I c) ↔ isc t n i c = true := by
  unfold sg isc
  by_cases h1 : i < n
  · have := ht i h1
    rw [if_pos h1, I_eqI (by omega) (by omega)]
    simp [h1]
  · rw [if_neg h1]
    simp [h1, neg1_ne (show c < 2147483648 by omega)]
theorem TC_at {t : Nat → Nat} {n : Nat} {hd : Int32} {h : Hp} (T : TC t n hd h) {k : Nat} {v : Int32} (hk : k ≠ 1 ∧ k ≠ 3) : TC t n hd (setI h 1 k v) := by
  obtain ⟨F, k1, k2, k3⟩ := T
  refine ⟨FX_setI F, by rw [setI_at, if_neg (fun z => hk.1 z.2.symm)]; exact k1, fun i hi => by rw [setI_ne (by decide)]; exact k2 i hi, by rw [setI_at, if_neg (fun z => hk.2 z.2.symm)]; exact k3⟩
theorem TC_ne {t : Nat → Nat} {n : Nat} {hd : Int32} {h : Hp} (T : TC t n hd h) {p k : Nat} {v : Int32} (hp : p ≠ 1 ∧ p ≠ 2) : TC t n hd (setI h p k v) := by
  obtain ⟨F, k1, k2, k3⟩ := T
  refine ⟨FX_setI F, by rw [setI_ne (fun z => hp.1 z.symm)]; exact k1, fun i hi => by rw [setI_ne (fun z => hp.2 z.symm)]; exact k2 i hi, by rw [setI_ne (fun z => hp.1 z.symm)]; exact k3⟩
def kept (h h' : Hp) : Prop := (∀ j, j ≠ 2 → h'.2.1 1 j = h.2.1 1 j) ∧ h'.2.1 3 = h.2.1 3 ∧ h'.2.1 4 = h.2.1 4
theorem c_takes_no {t : Nat → Nat} {n i c : Nat} {hd x : Int32} {h : Hp} (hn : n ≤ 64) (ht : ∀ i, i < n → t i ≤ 255) (T : TC t n hd h) (ha : h.2.1 1 2 = I i) (hi : i < 1000) (hc : c < 256) (hx : x = I c) (hb : isc t n i c = false) : P_X3_takes 1 x h = some (I 0, h) := by
  have hs := c_sign hn T ha hi
  have F := T.1
  have hz := sg_is (i := i) ht hc
  have h1 : ¬ sg t n i = I c := fun z => by rw [hz.mp z] at hb; cases hb
  rw [hx]
  unfold P_X3_takes
  simp (disch := first | assumption | exact FX_setI ‹_› | exact FX_setI (FX_setI ‹_›) | exact FX_setI (FX_setI (FX_setI ‹_›)) | exact FX_setI (FX_setI (FX_setI (FX_setI ‹_›))) | omega) only [gr_0_0, gr_0_1, gr_0_2, gr_0_3, gr_0_4, gr_0_5, gr_0_6, gr_0_7, gr_1_0, gr_1_5, gr_1_7, gr_5_3, gr_5_9, gr_8_3, gr_8_9, gr_11_3, gr_11_9, gr_14_0, gr_14_1, gr_14_2, gr_18_0, gr_18_1, gr_18_2, gr_24_0, gr_24_1, gr_24_2, gr_24_3, gr_24_5, gr_24_6, gr_24_10, gr_24_11, gr_24_12, gr_24_15, al_2, al_3, al_4, al_7, al_10, al_13, al_15, al_16, al_17, al_19, al_20, al_21, al_22, al_23, al_25, al_26, al_27, al_28, al_29, al_30, al_31, al_32, al_33, al_34, as_2, as_3, as_4, as_7, as_10, as_13, as_15, as_16, as_17, as_19, as_20, as_21, as_22, as_23, as_25, as_26, as_27, as_28, as_29, as_30, as_31, as_32, as_33, as_34, gi_0, gi_1, gi_5, gi_8, gi_11, gi_14, gi_18, gi_24, pi_0, pi_1, pi_5, pi_8, pi_11, pi_14, pi_18, pi_24, rc_0, rc_1, rc_5, rc_8, rc_11, rc_14, rc_18, rc_24, ln_2, ln_3, ln_4, ln_7, ln_10, ln_13, ln_15, ln_16, ln_17, ln_19, ln_20, ln_21, ln_22, ln_23, ln_25, ln_26, ln_27, ln_28, ln_29, ln_30, ln_31, ln_32, ln_33, ln_34, ln_6, ln_9, ln_12, ciN, cvN, lt_eq, nn_none, nn_some, setI_1, setI_at, setI_R, upd2_at, I_add, I_addn, Int32.neg_neg, I_mul, I_ltI, I_leI, I_eqI, I_nat, if_true, if_false, reduceIte, reduceIteN, I_difn, bz_0, bz_1, nz_I, I_rem, I_div, I_sub, l4095, l32, l63, l0, l1, l2, l3, l4, l5, l6, l7, l8, l9, l10, l11, l12, l16, l24, l28, l31, l40, l48, l57, l64, l68, l78, l79, l99, l255, l2000, l2187, l1000000000, hs]
theorem c_takes_yes {t : Nat → Nat} {n i c : Nat} {hd x : Int32} {h : Hp} (hn : n ≤ 64) (ht : ∀ i, i < n → t i ≤ 255) (T : TC t n hd h) (ha : h.2.1 1 2 = I i) (hi : i < 1000) (hc : c < 256) (hx : x = I c) (hb : isc t n i c = true) : P_X3_takes 1 x h = some (I 1, setI h 1 2 (I (i + 1))) := by
  have hs := c_sign hn T ha hi
  have F := T.1
  have h1 : sg t n i = I c := (sg_is (i := i) ht hc).mpr hb
  rw [hx]
  unfold P_X3_takes
  simp (disch := first | assumption | exact FX_setI ‹_› | exact FX_setI (FX_setI ‹_›) | exact FX_setI (FX_setI (FX_setI ‹_›)) | exact FX_setI (FX_setI (FX_setI (FX_setI ‹_›))) | omega) only [gr_0_0, gr_0_1, gr_0_2, gr_0_3, gr_0_4, gr_0_5, gr_0_6, gr_0_7, gr_1_0, gr_1_5, gr_1_7, gr_5_3, gr_5_9, gr_8_3, gr_8_9, gr_11_3, gr_11_9, gr_14_0, gr_14_1, gr_14_2, gr_18_0, gr_18_1, gr_18_2, gr_24_0, gr_24_1, gr_24_2, gr_24_3, gr_24_5, gr_24_6, gr_24_10, gr_24_11, gr_24_12, gr_24_15, al_2, al_3, al_4, al_7, al_10, al_13, al_15, al_16, al_17, al_19, al_20, al_21, al_22, al_23, al_25, al_26, al_27, al_28, al_29, al_30, al_31, al_32, al_33, al_34, as_2, as_3, as_4, as_7, as_10, as_13, as_15, as_16, as_17, as_19, as_20, as_21, as_22, as_23, as_25, as_26, as_27, as_28, as_29, as_30, as_31, as_32, as_33, as_34, gi_0, gi_1, gi_5, gi_8, gi_11, gi_14, gi_18, gi_24, pi_0, pi_1, pi_5, pi_8, pi_11, pi_14, pi_18, pi_24, rc_0, rc_1, rc_5, rc_8, rc_11, rc_14, rc_18, rc_24, ln_2, ln_3, ln_4, ln_7, ln_10, ln_13, ln_15, ln_16, ln_17, ln_19, ln_20, ln_21, ln_22, ln_23, ln_25, ln_26, ln_27, ln_28, ln_29, ln_30, ln_31, ln_32, ln_33, ln_34, ln_6, ln_9, ln_12, ciN, cvN, lt_eq, nn_none, nn_some, setI_1, setI_at, setI_R, upd2_at, I_add, I_addn, Int32.neg_neg, I_mul, I_ltI, I_leI, I_eqI, I_nat, if_true, if_false, reduceIte, reduceIteN, I_difn, bz_0, bz_1, nz_I, I_rem, I_div, I_sub, l4095, l32, l63, l0, l1, l2, l3, l4, l5, l6, l7, l8, l9, l10, l11, l12, l16, l24, l28, l31, l40, l48, l57, l64, l68, l78, l79, l99, l255, l2000, l2187, l1000000000, hs, h1, ha]
theorem kept_at {h : Hp} {v : Int32} : kept h (setI h 1 2 v) := ⟨fun j hj => by rw [setI_at, if_neg (fun z => hj z.2)], setI_ne (by decide), setI_ne (by decide)⟩
theorem c_takes {t : Nat → Nat} {n i c : Nat} {hd x : Int32} {h : Hp} (hn : n ≤ 64) (ht : ∀ i, i < n → t i ≤ 255) (T : TC t n hd h) (ha : h.2.1 1 2 = I i) (hi : i < 1000) (hc : c < 256) (hx : x = I c) : OUT A3 (TC t n hd) 1 2 (P_X3_takes 1 x h) h (tkS t n c i) (fun h' => (tkS t n c i).2 = i + 1 ∧ kept h h') := by
  unfold tkS
  cases hb : isc t n i c
  · rw [if_neg Bool.false_ne_true]
    exact ⟨h, c_takes_no hn ht T ha hi hc hx hb, FxA.rf, T, ha, fun z => by cases z⟩
  · rw [if_pos rfl]
    exact ⟨setI h 1 2 (I (i + 1)), c_takes_yes hn ht T ha hi hc hx hb, FxA.set (by decide), TC_at T (by decide), by rw [setI_at, if_pos ⟨rfl, rfl⟩], fun _ => ⟨rfl, kept_at⟩⟩
theorem c_isDigit {t : Nat → Nat} {n i : Nat} {hd : Int32} {h : Hp} (hn : n ≤ 64) (ht : ∀ i, i < n → t i ≤ 255) (T : TC t n hd h) (ha : h.2.1 1 2 = I i) (hi : i < 1000) : P_X3_isDigitHere 1 h = some (bi (isd t n i), h) := by
  have hs := c_sign hn T ha hi
  have F := T.1
  unfold P_X3_isDigitHere
  unfold sg at hs
  by_cases h1 : i < n
  · have h2 := ht i h1
    rw [if_pos h1] at hs
    by_cases h3 : 48 ≤ t i
    · by_cases h4 : t i ≤ 57
      · simp (disch := first | assumption | exact FX_setI ‹_› | exact FX_setI (FX_setI ‹_›) | exact FX_setI (FX_setI (FX_setI ‹_›)) | exact FX_setI (FX_setI (FX_setI (FX_setI ‹_›))) | omega) only [gr_0_0, gr_0_1, gr_0_2, gr_0_3, gr_0_4, gr_0_5, gr_0_6, gr_0_7, gr_1_0, gr_1_5, gr_1_7, gr_5_3, gr_5_9, gr_8_3, gr_8_9, gr_11_3, gr_11_9, gr_14_0, gr_14_1, gr_14_2, gr_18_0, gr_18_1, gr_18_2, gr_24_0, gr_24_1, gr_24_2, gr_24_3, gr_24_5, gr_24_6, gr_24_10, gr_24_11, gr_24_12, gr_24_15, al_2, al_3, al_4, al_7, al_10, al_13, al_15, al_16, al_17, al_19, al_20, al_21, al_22, al_23, al_25, al_26, al_27, al_28, al_29, al_30, al_31, al_32, al_33, al_34, as_2, as_3, as_4, as_7, as_10, as_13, as_15, as_16, as_17, as_19, as_20, as_21, as_22, as_23, as_25, as_26, as_27, as_28, as_29, as_30, as_31, as_32, as_33, as_34, gi_0, gi_1, gi_5, gi_8, gi_11, gi_14, gi_18, gi_24, pi_0, pi_1, pi_5, pi_8, pi_11, pi_14, pi_18, pi_24, rc_0, rc_1, rc_5, rc_8, rc_11, rc_14, rc_18, rc_24, ln_2, ln_3, ln_4, ln_7, ln_10, ln_13, ln_15, ln_16, ln_17, ln_19, ln_20, ln_21, ln_22, ln_23, ln_25, ln_26, ln_27, ln_28, ln_29, ln_30, ln_31, ln_32, ln_33, ln_34, ln_6, ln_9, ln_12, ciN, cvN, lt_eq, nn_none, nn_some, setI_1, setI_at, setI_R, upd2_at, I_add, I_addn, Int32.neg_neg, I_mul, I_ltI, I_leI, I_eqI, I_nat, if_true, if_false, reduceIte, reduceIteN, I_difn, bz_0, bz_1, nz_I, I_rem, I_div, I_sub, l4095, l32, l63, l0, l1, l2, l3, l4, l5, l6, l7, l8, l9, l10, l11, l12, l16, l24, l28, l31, l40, l48, l57, l64, l68, l78, l79, l99, l255, l2000, l2187, l1000000000, hs]
        rw [show isd t n i = true by unfold isd; simp [h1, h3, h4]]
        rfl
      · simp (disch := first | assumption | exact FX_setI ‹_› | exact FX_setI (FX_setI ‹_›) | exact FX_setI (FX_setI (FX_setI ‹_›)) | exact FX_setI (FX_setI (FX_setI (FX_setI ‹_›))) | omega) only [gr_0_0, gr_0_1, gr_0_2, gr_0_3, gr_0_4, gr_0_5, gr_0_6, gr_0_7, gr_1_0, gr_1_5, gr_1_7, gr_5_3, gr_5_9, gr_8_3, gr_8_9, gr_11_3, gr_11_9, gr_14_0, gr_14_1, gr_14_2, gr_18_0, gr_18_1, gr_18_2, gr_24_0, gr_24_1, gr_24_2, gr_24_3, gr_24_5, gr_24_6, gr_24_10, gr_24_11, gr_24_12, gr_24_15, al_2, al_3, al_4, al_7, al_10, al_13, al_15, al_16, al_17, al_19, al_20, al_21, al_22, al_23, al_25, al_26, al_27, al_28, al_29, al_30, al_31, al_32, al_33, al_34, as_2, as_3, as_4, as_7, as_10, as_13, as_15, as_16, as_17, as_19, as_20, as_21, as_22, as_23, as_25, as_26, as_27, as_28, as_29, as_30, as_31, as_32, as_33, as_34, gi_0, gi_1, gi_5, gi_8, gi_11, gi_14, gi_18, gi_24, pi_0, pi_1, pi_5, pi_8, pi_11, pi_14, pi_18, pi_24, rc_0, rc_1, rc_5, rc_8, rc_11, rc_14, rc_18, rc_24, ln_2, ln_3, ln_4, ln_7, ln_10, ln_13, ln_15, ln_16, ln_17, ln_19, ln_20, ln_21, ln_22, ln_23, ln_25, ln_26, ln_27, ln_28, ln_29, ln_30, ln_31, ln_32, ln_33, ln_34, ln_6, ln_9, ln_12, ciN, cvN, lt_eq, nn_none, nn_some, setI_1, setI_at, setI_R, upd2_at, I_add, I_addn, Int32.neg_neg, I_mul, I_ltI, I_leI, I_eqI, I_nat, if_true, if_false, reduceIte, reduceIteN, I_difn, bz_0, bz_1, nz_I, I_rem, I_div, I_sub, l4095, l32, l63, l0, l1, l2, l3, l4, l5, l6, l7, l8, l9, l10, l11, l12, l16, l24, l28, l31, l40, l48, l57, l64, l68, l78, l79, l99, l255, l2000, l2187, l1000000000, hs]
        rw [show isd t n i = false by unfold isd; simp [h1, h4]]
        rfl
    · simp (disch := first | assumption | exact FX_setI ‹_› | exact FX_setI (FX_setI ‹_›) | exact FX_setI (FX_setI (FX_setI ‹_›)) | exact FX_setI (FX_setI (FX_setI (FX_setI ‹_›))) | omega) only [gr_0_0, gr_0_1, gr_0_2, gr_0_3, gr_0_4, gr_0_5, gr_0_6, gr_0_7, gr_1_0, gr_1_5, gr_1_7, gr_5_3, gr_5_9, gr_8_3, gr_8_9, gr_11_3, gr_11_9, gr_14_0, gr_14_1, gr_14_2, gr_18_0, gr_18_1, gr_18_2, gr_24_0, gr_24_1, gr_24_2, gr_24_3, gr_24_5, gr_24_6, gr_24_10, gr_24_11, gr_24_12, gr_24_15, al_2, al_3, al_4, al_7, al_10, al_13, al_15, al_16, al_17, al_19, al_20, al_21, al_22, al_23, al_25, al_26, al_27, al_28, al_29, al_30, al_31, al_32, al_33, al_34, as_2, as_3, as_4, as_7, as_10, as_13, as_15, as_16, as_17, as_19, as_20, as_21, as_22, as_23, as_25, as_26, as_27, as_28, as_29, as_30, as_31, as_32, as_33, as_34, gi_0, gi_1, gi_5, gi_8, gi_11, gi_14, gi_18, gi_24, pi_0, pi_1, pi_5, pi_8, pi_11, pi_14, pi_18, pi_24, rc_0, rc_1, rc_5, rc_8, rc_11, rc_14, rc_18, rc_24, ln_2, ln_3, ln_4, ln_7, ln_10, ln_13, ln_15, ln_16, ln_17, ln_19, ln_20, ln_21, ln_22, ln_23, ln_25, ln_26, ln_27, ln_28, ln_29, ln_30, ln_31, ln_32, ln_33, ln_34, ln_6, ln_9, ln_12, ciN, cvN, lt_eq, nn_none, nn_some, setI_1, setI_at, setI_R, upd2_at, I_add, I_addn, Int32.neg_neg, I_mul, I_ltI, I_leI, I_eqI, I_nat, if_true, if_false, reduceIte, reduceIteN, I_difn, bz_0, bz_1, nz_I, I_rem, I_div, I_sub, l4095, l32, l63, l0, l1, l2, l3, l4, l5, l6, l7, l8, l9, l10, l11, l12, l16, l24, l28, l31, l40, l48, l57, l64, l68, l78, l79, l99, l255, l2000, l2187, l1000000000, hs]
      rw [show isd t n i = false by unfold isd; simp [h1, h3]]
      rfl
  · rw [if_neg h1] at hs
    have hlt : -I 1 < I 48 := neg1_lt (by decide)
    simp (disch := first | assumption | exact FX_setI ‹_› | exact FX_setI (FX_setI ‹_›) | exact FX_setI (FX_setI (FX_setI ‹_›)) | exact FX_setI (FX_setI (FX_setI (FX_setI ‹_›))) | omega) only [gr_0_0, gr_0_1, gr_0_2, gr_0_3, gr_0_4, gr_0_5, gr_0_6, gr_0_7, gr_1_0, gr_1_5, gr_1_7, gr_5_3, gr_5_9, gr_8_3, gr_8_9, gr_11_3, gr_11_9, gr_14_0, gr_14_1, gr_14_2, gr_18_0, gr_18_1, gr_18_2, gr_24_0, gr_24_1, gr_24_2, gr_24_3, gr_24_5, gr_24_6, gr_24_10, gr_24_11, gr_24_12, gr_24_15, al_2, al_3, al_4, al_7, al_10, al_13, al_15, al_16, al_17, al_19, al_20, al_21, al_22, al_23, al_25, al_26, al_27, al_28, al_29, al_30, al_31, al_32, al_33, al_34, as_2, as_3, as_4, as_7, as_10, as_13, as_15, as_16, as_17, as_19, as_20, as_21, as_22, as_23, as_25, as_26, as_27, as_28, as_29, as_30, as_31, as_32, as_33, as_34, gi_0, gi_1, gi_5, gi_8, gi_11, gi_14, gi_18, gi_24, pi_0, pi_1, pi_5, pi_8, pi_11, pi_14, pi_18, pi_24, rc_0, rc_1, rc_5, rc_8, rc_11, rc_14, rc_18, rc_24, ln_2, ln_3, ln_4, ln_7, ln_10, ln_13, ln_15, ln_16, ln_17, ln_19, ln_20, ln_21, ln_22, ln_23, ln_25, ln_26, ln_27, ln_28, ln_29, ln_30, ln_31, ln_32, ln_33, ln_34, ln_6, ln_9, ln_12, ciN, cvN, lt_eq, nn_none, nn_some, setI_1, setI_at, setI_R, upd2_at, I_add, I_addn, Int32.neg_neg, I_mul, I_ltI, I_leI, I_eqI, I_nat, if_true, if_false, reduceIte, reduceIteN, I_difn, bz_0, bz_1, nz_I, I_rem, I_div, I_sub, l4095, l32, l63, l0, l1, l2, l3, l4, l5, l6, l7, l8, l9, l10, l11, l12, l16, l24, l28, l31, l40, l48, l57, l64, l68, l78, l79, l99, l255, l2000, l2187, l1000000000, hs]
    rw [show isd t n i = false by unfold isd; simp [h1]]
    rfl
/-- what a number leaves behind -/
def DD (t : Nat → Nat) (h : Hp) (c i j k v : Nat) (h' : Hp) : Prop :=
  h'.2.1 1 6 = I (c + 1) ∧ h'.2.1 3 c = I (dva t i k v) ∧ (∀ x, x ≠ c → h'.2.1 3 x = h.2.1 3 x) ∧ h'.2.1 1 4 = h.2.1 1 4 ∧ h'.2.1 1 8 = I (j + k) ∧ (∀ x, x < j → h'.2.1 4 x = h.2.1 4 x) ∧ ∀ x, x < k → h'.2.1 4 (j + x) = I (t (i + x) - 48)
theorem c_digits_end {t : Nat → Nat} {n i c j v : Nat} {hd : Int32} {h : Hp} (T : TC t n hd h) (ha : h.2.1 1 2 = I i) (h8 : h.2.1 1 8 = I j) :
    FxA A3 h (setI (setI h 3 c (I v)) 1 6 (I (c + 1))) ∧ TC t n hd (setI (setI h 3 c (I v)) 1 6 (I (c + 1))) ∧ (setI (setI h 3 c (I v)) 1 6 (I (c + 1))).2.1 1 2 = I i ∧ DD t h c i j 0 v (setI (setI h 3 c (I v)) 1 6 (I (c + 1))) := by
  refine ⟨(FxA.set (by decide)).tr (FxA.set (by decide)), TC_at (TC_ne T (by decide)) (by decide), by rw [setI_at, if_neg (by decide), setI_ne (by decide)]; exact ha, ?_, ?_, ?_, ?_, ?_, ?_, ?_⟩
  · rw [setI_at, if_pos ⟨rfl, rfl⟩]
  · rw [setI_ne (by decide), setI_at, if_pos ⟨rfl, rfl⟩]; rfl
  · intro x hx
    rw [setI_ne (by decide), setI_at, if_neg (fun z => hx z.2)]
  · rw [setI_at, if_neg (by decide), setI_ne (by decide)]
  · rw [setI_at, if_neg (by decide), setI_ne (by decide)]; exact h8
  · intro x hx
    rw [setI_ne (by decide), setI_ne (by decide)]
  · intro x hx
    omega
theorem c_digits_L {t : Nat → Nat} {n : Nat} {hd : Int32} (hn : n ≤ 64) (ht : ∀ i, i < n → t i ≤ 255) {c mm : Nat} (hc : c < 3) (hmm : mm ≤ 12) : ∀ (k j m i v : Nat) (h : Hp), j + k = mm → k < m → i + k < 1000 → TC t n hd h → h.2.1 1 2 = I i → h.2.1 1 8 = I j → h.2.1 1 6 = I c →
    ∃ h', P_X3_readDigits_L7 m 1 (I mm) (I v) h = some (bi (decide (0 < j + dcn t n i k)), h') ∧ FxA A3 h h' ∧ TC t n hd h' ∧ h'.2.1 1 2 = I (i + dcn t n i k) ∧ DD t h c i j (dcn t n i k) v h' := by
  intro k
  induction k with
  | zero =>
    intro j m i v h hj hm hi T ha h8 h6
    cases m with
    | zero => omega
    | succ m =>
      have F := T.1
      obtain ⟨e1, e2, e3, e4⟩ := c_digits_end (c := c) (v := v) T ha h8
      refine ⟨_, ?_, e1, e2, e3, e4⟩
      have e : j = mm := by omega
      subst e
      unfold P_X3_readDigits_L7
      by_cases hz : j ≤ 0
      · simp (disch := first | assumption | exact FX_setI ‹_› | exact FX_setI (FX_setI ‹_›) | exact FX_setI (FX_setI (FX_setI ‹_›)) | exact FX_setI (FX_setI (FX_setI (FX_setI ‹_›))) | omega) only [gr_0_0, gr_0_1, gr_0_2, gr_0_3, gr_0_4, gr_0_5, gr_0_6, gr_0_7, gr_1_0, gr_1_5, gr_1_7, gr_5_3, gr_5_9, gr_8_3, gr_8_9, gr_11_3, gr_11_9, gr_14_0, gr_14_1, gr_14_2, gr_18_0, gr_18_1, gr_18_2, gr_24_0, gr_24_1, gr_24_2, gr_24_3, gr_24_5, gr_24_6, gr_24_10, gr_24_11, gr_24_12, gr_24_15, al_2, al_3, al_4, al_7, al_10, al_13, al_15, al_16, al_17, al_19, al_20, al_21, al_22, al_23, al_25, al_26, al_27, al_28, al_29, al_30, al_31, al_32, al_33, al_34, as_2, as_3, as_4, as_7, as_10, as_13, as_15, as_16, as_17, as_19, as_20, as_21, as_22, as_23, as_25, as_26, as_27, as_28, as_29, as_30, as_31, as_32, as_33, as_34, gi_0, gi_1, gi_5, gi_8, gi_11, gi_14, gi_18, gi_24, pi_0, pi_1, pi_5, pi_8, pi_11, pi_14, pi_18, pi_24, rc_0, rc_1, rc_5, rc_8, rc_11, rc_14, rc_18, rc_24, ln_2, ln_3, ln_4, ln_7, ln_10, ln_13, ln_15, ln_16, ln_17, ln_19, ln_20, ln_21, ln_22, ln_23, ln_25, ln_26, ln_27, ln_28, ln_29, ln_30, ln_31, ln_32, ln_33, ln_34, ln_6, ln_9, ln_12, ciN, cvN, lt_eq, nn_none, nn_some, setI_1, setI_at, setI_R, upd2_at, I_add, I_addn, Int32.neg_neg, I_mul, I_ltI, I_leI, I_eqI, I_nat, if_true, if_false, reduceIte, reduceIteN, I_difn, bz_0, bz_1, nz_I, I_rem, I_div, I_sub, l4095, l32, l63, l0, l1, l2, l3, l4, l5, l6, l7, l8, l9, l10, l11, l12, l16, l24, l28, l31, l40, l48, l57, l64, l68, l78, l79, l99, l255, l2000, l2187, l1000000000, h8, h6]
        rw [show decide (0 < j + dcn t n i 0) = false from decide_eq_false (by have : dcn t n i 0 = 0 := rfl; omega)]
        rfl
      · simp (disch := first | assumption | exact FX_setI ‹_› | exact FX_setI (FX_setI ‹_›) | exact FX_setI (FX_setI (FX_setI ‹_›)) | exact FX_setI (FX_setI (FX_setI (FX_setI ‹_›))) | omega) only [gr_0_0, gr_0_1, gr_0_2, gr_0_3, gr_0_4, gr_0_5, gr_0_6, gr_0_7, gr_1_0, gr_1_5, gr_1_7, gr_5_3, gr_5_9, gr_8_3, gr_8_9, gr_11_3, gr_11_9, gr_14_0, gr_14_1, gr_14_2, gr_18_0, gr_18_1, gr_18_2, gr_24_0, gr_24_1, gr_24_2, gr_24_3, gr_24_5, gr_24_6, gr_24_10, gr_24_11, gr_24_12, gr_24_15, al_2, al_3, al_4, al_7, al_10, al_13, al_15, al_16, al_17, al_19, al_20, al_21, al_22, al_23, al_25, al_26, al_27, al_28, al_29, al_30, al_31, al_32, al_33, al_34, as_2, as_3, as_4, as_7, as_10, as_13, as_15, as_16, as_17, as_19, as_20, as_21, as_22, as_23, as_25, as_26, as_27, as_28, as_29, as_30, as_31, as_32, as_33, as_34, gi_0, gi_1, gi_5, gi_8, gi_11, gi_14, gi_18, gi_24, pi_0, pi_1, pi_5, pi_8, pi_11, pi_14, pi_18, pi_24, rc_0, rc_1, rc_5, rc_8, rc_11, rc_14, rc_18, rc_24, ln_2, ln_3, ln_4, ln_7, ln_10, ln_13, ln_15, ln_16, ln_17, ln_19, ln_20, ln_21, ln_22, ln_23, ln_25, ln_26, ln_27, ln_28, ln_29, ln_30, ln_31, ln_32, ln_33, ln_34, ln_6, ln_9, ln_12, ciN, cvN, lt_eq, nn_none, nn_some, setI_1, setI_at, setI_R, upd2_at, I_add, I_addn, Int32.neg_neg, I_mul, I_ltI, I_leI, I_eqI, I_nat, if_true, if_false, reduceIte, reduceIteN, I_difn, bz_0, bz_1, nz_I, I_rem, I_div, I_sub, l4095, l32, l63, l0, l1, l2, l3, l4, l5, l6, l7, l8, l9, l10, l11, l12, l16, l24, l28, l31, l40, l48, l57, l64, l68, l78, l79, l99, l255, l2000, l2187, l1000000000, h8, h6]
        rw [show decide (0 < j + dcn t n i 0) = true from decide_eq_true (by have : dcn t n i 0 = 0 := rfl; omega)]
        rfl
  | succ k ih =>
    intro j m i v h hj hm hi T ha h8 h6
    cases m with
    | zero => omega
    | succ m =>
      have F := T.1
      have hdg := c_isDigit hn ht T ha (by omega)
      rw [dcn_succ]
      cases hb : isd t n i
      · rw [if_neg Bool.false_ne_true]
        rw [hb, bi_f] at hdg
        obtain ⟨e1, e2, e3, e4⟩ := c_digits_end (c := c) (v := v) T ha h8
        refine ⟨_, ?_, e1, e2, e3, e4⟩
        unfold P_X3_readDigits_L7
        by_cases hz : j ≤ 0
        · simp (disch := first | assumption | exact FX_setI ‹_› | exact FX_setI (FX_setI ‹_›) | exact FX_setI (FX_setI (FX_setI ‹_›)) | exact FX_setI (FX_setI (FX_setI (FX_setI ‹_›))) | omega) only [gr_0_0, gr_0_1, gr_0_2, gr_0_3, gr_0_4, gr_0_5, gr_0_6, gr_0_7, gr_1_0, gr_1_5, gr_1_7, gr_5_3, gr_5_9, gr_8_3, gr_8_9, gr_11_3, gr_11_9, gr_14_0, gr_14_1, gr_14_2, gr_18_0, gr_18_1, gr_18_2, gr_24_0, gr_24_1, gr_24_2, gr_24_3, gr_24_5, gr_24_6, gr_24_10, gr_24_11, gr_24_12, gr_24_15, al_2, al_3, al_4, al_7, al_10, al_13, al_15, al_16, al_17, al_19, al_20, al_21, al_22, al_23, al_25, al_26, al_27, al_28, al_29, al_30, al_31, al_32, al_33, al_34, as_2, as_3, as_4, as_7, as_10, as_13, as_15, as_16, as_17, as_19, as_20, as_21, as_22, as_23, as_25, as_26, as_27, as_28, as_29, as_30, as_31, as_32, as_33, as_34, gi_0, gi_1, gi_5, gi_8, gi_11, gi_14, gi_18, gi_24, pi_0, pi_1, pi_5, pi_8, pi_11, pi_14, pi_18, pi_24, rc_0, rc_1, rc_5, rc_8, rc_11, rc_14, rc_18, rc_24, ln_2, ln_3, ln_4, ln_7, ln_10, ln_13, ln_15, ln_16, ln_17, ln_19, ln_20, ln_21, ln_22, ln_23, ln_25, ln_26, ln_27, ln_28, ln_29, ln_30, ln_31, ln_32, ln_33, ln_34, ln_6, ln_9, ln_12, ciN, cvN, lt_eq, nn_none, nn_some, setI_1, setI_at, setI_R, upd2_at, I_add, I_addn, Int32.neg_neg, I_mul, I_ltI, I_leI, I_eqI, I_nat, if_true, if_false, reduceIte, reduceIteN, I_difn, bz_0, bz_1, nz_I, I_rem, I_div, I_sub, l4095, l32, l63, l0, l1, l2, l3, l4, l5, l6, l7, l8, l9, l10, l11, l12, l16, l24, l28, l31, l40, l48, l57, l64, l68, l78, l79, l99, l255, l2000, l2187, l1000000000, h8, h6, hdg]
          rw [show decide (0 < j + 0) = false by simp; omega]
          rfl
        · simp (disch := first | assumption | exact FX_setI ‹_› | exact FX_setI (FX_setI ‹_›) | exact FX_setI (FX_setI (FX_setI ‹_›)) | exact FX_setI (FX_setI (FX_setI (FX_setI ‹_›))) | omega) only [gr_0_0, gr_0_1, gr_0_2, gr_0_3, gr_0_4, gr_0_5, gr_0_6, gr_0_7, gr_1_0, gr_1_5, gr_1_7, gr_5_3, gr_5_9, gr_8_3, gr_8_9, gr_11_3, gr_11_9, gr_14_0, gr_14_1, gr_14_2, gr_18_0, gr_18_1, gr_18_2, gr_24_0, gr_24_1, gr_24_2, gr_24_3, gr_24_5, gr_24_6, gr_24_10, gr_24_11, gr_24_12, gr_24_15, al_2, al_3, al_4, al_7, al_10, al_13, al_15, al_16, al_17, al_19, al_20, al_21, al_22, al_23, al_25, al_26, al_27, al_28, al_29, al_30, al_31, al_32, al_33, al_34, as_2, as_3, as_4, as_7, as_10, as_13, as_15, as_16, as_17, as_19, as_20, as_21, as_22, as_23, as_25, as_26, as_27, as_28, as_29, as_30, as_31, as_32, as_33, as_34, gi_0, gi_1, gi_5, gi_8, gi_11, gi_14, gi_18, gi_24, pi_0, pi_1, pi_5, pi_8, pi_11, pi_14, pi_18, pi_24, rc_0, rc_1, rc_5, rc_8, rc_11, rc_14, rc_18, rc_24, ln_2, ln_3, ln_4, ln_7, ln_10, ln_13, ln_15, ln_16, ln_17, ln_19, ln_20, ln_21, ln_22, ln_23, ln_25, ln_26, ln_27, ln_28, ln_29, ln_30, ln_31, ln_32, ln_33, ln_34, ln_6, ln_9, ln_12, ciN, cvN, lt_eq, nn_none, nn_some, setI_1, setI_at, setI_R, upd2_at, I_add, I_addn, Int32.neg_neg, I_mul, I_ltI, I_leI, I_eqI, I_nat, if_true, if_false, reduceIte, reduceIteN, I_difn, bz_0, bz_1, nz_I, I_rem, I_div, I_sub, l4095, l32, l63, l0, l1, l2, l3, l4, l5, l6, l7, l8, l9, l10, l11, l12, l16, l24, l28, l31, l40, l48, l57, l64, l68, l78, l79, l99, l255, l2000, l2187, l1000000000, h8, h6, hdg]
          rw [show decide (0 < j + 0) = true by simp; omega]
          rfl
      · rw [if_pos rfl]
        rw [hb, bi_t] at hdg
        have hin : i < n ∧ 48 ≤ t i ∧ t i ≤ 57 := by
          unfold isd at hb
          simpa using hb
        have hs := c_sign hn T ha (by omega)
        unfold sg at hs
        rw [if_pos hin.1] at hs
        let h1 : Hp := setI (setI (setI h 4 j (I (t i - 48))) 1 8 (I (j + 1))) 1 2 (I (i + 1))
        have z1 : setI (setI (setI h 4 j (I (t i - 48))) 1 8 (I (j + 1))) 1 2 (I (i + 1)) = h1 := rfl
        have A1 : FxA A3 h h1 := ((FxA.set (by decide)).tr (FxA.set (by decide))).tr (FxA.set (by decide))
        have T1 : TC t n hd h1 := TC_at (TC_at (TC_ne T (by decide)) (by decide)) (by decide)
        have a1 : h1.2.1 1 2 = I (i + 1) := by rw [← z1, setI_at, if_pos ⟨rfl, rfl⟩]
        have a8 : h1.2.1 1 8 = I (j + 1) := by rw [← z1, setI_at, if_neg (by decide), setI_at, if_pos ⟨rfl, rfl⟩]
        have a6 : h1.2.1 1 6 = I c := by rw [← z1, setI_at, if_neg (by decide), setI_at, if_neg (by decide), setI_ne (by decide)]; exact h6
        have a4 : h1.2.1 1 4 = h.2.1 1 4 := by rw [← z1, setI_at, if_neg (by decide), setI_at, if_neg (by decide), setI_ne (by decide)]
        obtain ⟨h2, r1, r2, r3, r4, r5⟩ := ih (j + 1) m (i + 1) (v * 10 + (t i - 48)) h1 (by omega) (by omega) (by omega) T1 a1 a8 a6
        refine ⟨h2, ?_, A1.tr r2, r3, by rw [r4]; congr 1; omega, ?_⟩
        · rw [show decide (0 < j + (dcn t n (i + 1) k + 1)) = decide (0 < j + 1 + dcn t n (i + 1) k) by congr 1; exact propext ⟨fun _ => by omega, fun _ => by omega⟩]
          unfold P_X3_readDigits_L7
          simp (disch := first | assumption | exact FX_setI ‹_› | exact FX_setI (FX_setI ‹_›) | exact FX_setI (FX_setI (FX_setI ‹_›)) | exact FX_setI (FX_setI (FX_setI (FX_setI ‹_›))) | omega) only [gr_0_0, gr_0_1, gr_0_2, gr_0_3, gr_0_4, gr_0_5, gr_0_6, gr_0_7, gr_1_0, gr_1_5, gr_1_7, gr_5_3, gr_5_9, gr_8_3, gr_8_9, gr_11_3, gr_11_9, gr_14_0, gr_14_1, gr_14_2, gr_18_0, gr_18_1, gr_18_2, gr_24_0, gr_24_1, gr_24_2, gr_24_3, gr_24_5, gr_24_6, gr_24_10, gr_24_11, gr_24_12, gr_24_15, al_2, al_3, al_4, al_7, al_10, al_13, al_15, al_16, al_17, al_19, al_20, al_21, al_22, al_23, al_25, al_26, al_27, al_28, al_29, al_30, al_31, al_32, al_33, al_34, as_2, as_3, as_4, as_7, as_10, as_13, as_15, as_16, as_17, as_19, as_20, as_21, as_22, as_23, as_25, as_26, as_27, as_28, as_29, as_30, as_31, as_32, as_33, as_34, gi_0, gi_1, gi_5, gi_8, gi_11, gi_14, gi_18, gi_24, pi_0, pi_1, pi_5, pi_8, pi_11, pi_14, pi_18, pi_24, rc_0, rc_1, rc_5, rc_8, rc_11, rc_14, rc_18, rc_24, ln_2, ln_3, ln_4, ln_7, ln_10, ln_13, ln_15, ln_16, ln_17, ln_19, ln_20, ln_21, ln_22, ln_23, ln_25, ln_26, ln_27, ln_28, ln_29, ln_30, ln_31, ln_32, ln_33, ln_34, ln_6, ln_9, ln_12, ciN, cvN, lt_eq, nn_none, nn_some, setI_1, setI_at, setI_R, upd2_at, I_add, I_addn, Int32.neg_neg, I_mul, I_ltI, I_leI, I_eqI, I_nat, if_true, if_false, reduceIte, reduceIteN, I_difn, bz_0, bz_1, nz_I, I_rem, I_div, I_sub, l4095, l32, l63, l0, l1, l2, l3, l4, l5, l6, l7, l8, l9, l10, l11, l12, l16, l24, l28, l31, l40, l48, l57, l64, l68, l78, l79, l99, l255, l2000, l2187, l1000000000, h8, h6, hdg, hs, ha, z1, and_self]
          exact r1
        · obtain ⟨d1, d2, d3, d4, d5, d6, d7⟩ := r5
          refine ⟨d1, d2, fun x hx => ?_, by rw [d4, a4], by rw [d5]; congr 1; omega, fun x hx => ?_, fun x hx => ?_⟩
          · rw [d3 x hx, ← z1, setI_ne (by decide), setI_ne (by decide), setI_ne (by decide)]
          · rw [d6 x (by omega), ← z1, setI_ne (by decide), setI_ne (by decide), setI_at, if_neg (by omega)]
          · by_cases h0 : x = 0
            · subst h0
              rw [Nat.add_zero, Nat.add_zero, d6 j (by omega), ← z1, setI_ne (by decide), setI_ne (by decide), setI_at, if_pos ⟨rfl, rfl⟩]
            · have := d7 (x - 1) (by omega)
              rw [show j + 1 + (x - 1) = j + x by omega, show i + 1 + (x - 1) = i + x by omega] at this
              exact this
