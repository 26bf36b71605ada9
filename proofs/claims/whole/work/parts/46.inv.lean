/-! What holds of both between the calls: state σ, image im, tape t of n letters, refusals ρ -/
def CI (h : Hp) (σ : Nat → Nat) (im : Option (Nat → Nat)) (n : Nat) (t : Nat → Nat) (ρ : Nat → Int32) : Prop :=
  FX h ∧ CO h 5 σ ∧ (∀ i, i < 7 → h.2.1 23 i = ρ i) ∧ ((im = none ∧ h.2.1 0 8 = I 0) ∨ ∃ ι, im = some ι ∧ h.2.1 0 8 = I 1 ∧ CO h 11 ι) ∧ h.2.1 1 1 = I n ∧ ∀ i, i < n → h.2.1 2 i = I (t i)
def MI (h : Hp) (σ : Nat → Nat) (im : Option (Nat → Nat)) (n : Nat) (t : Nat → Nat) (ρ : Nat → Int32) : Prop :=
  MS h σ ∧ (∀ i, i < 7 → h.2.1 25 i = ρ i) ∧ ((im = none ∧ h.2.1 24 4 = I 0) ∨ ∃ ι, im = some ι ∧ h.2.1 24 4 = I 1 ∧ ∀ j, j < 79 → h.2.1 27 j = I (ι j)) ∧ h.2.1 24 7 = I n ∧ ∀ i, i < n → h.2.1 29 i = I (t i)
def GW (σ : Nat → Nat) (im : Option (Nat → Nat)) (n : Nat) (t : Nat → Nat) : Prop := WF σ ∧ (∀ ι, im = some ι → WF ι) ∧ n ≤ 64 ∧ ∀ i, i < n → t i ≤ 255
def Inv (h : Hp) : Prop := ∃ σ im n t ρ, GW σ im n t ∧ CI h σ im n t ρ ∧ MI h σ im n t ρ
/-- both answer alike, and the invariant holds behind it -/
def Step (Pc Pm : Hp → Option (Int32 × Hp)) : Prop := ∀ h, Inv h → ∃ r h1 h2, Pc h = some (r, h1) ∧ Pm h1 = some (r, h2) ∧ FX h1 ∧ Inv h2
/-- the model's part keeps its places -/
def kM (h h1 : Hp) : Prop := FX h1 ∧ ∀ p, 24 ≤ p → p < 35 → h1.2.1 p = h.2.1 p
theorem kM_fx {A : List Nat} {h h1 : Hp} (a : FxA A h h1) (F : FX h) (hA : ∀ q, q ∈ A → q < 24 ∨ 35 ≤ q) : kM h h1 := ⟨a.fx F, fun p h1 h2 => a.2.2 p (fun z => by have := hA p z; omega)⟩
theorem MI_k {h h1 : Hp} {σ im n t ρ} (k : kM h h1) (M : MI h σ im n t ρ) : MI h1 σ im n t ρ := by
  obtain ⟨⟨F, m1⟩, m2, m3, m4, m5⟩ := M
  unfold MI MS
  rw [k.2 26 (by decide) (by decide), k.2 25 (by decide) (by decide), k.2 24 (by decide) (by decide), k.2 27 (by decide) (by decide), k.2 29 (by decide) (by decide)]
  exact ⟨⟨k.1, m1⟩, m2, m3, m4, m5⟩
/-- the class's part keeps its places -/
theorem CI_fx {A : List Nat} {h h1 : Hp} {σ im n t ρ} (a : FxA A h h1) (hA : ∀ q, q ∈ A → (24 ≤ q ∧ q < 35) ∨ (14 ≤ q ∧ q < 23)) (C : CI h σ im n t ρ) : CI h1 σ im n t ρ := by
  obtain ⟨F, c1, c2, c3, c4, c5⟩ := C
  have e : ∀ q, q < 14 ∨ q = 23 → h1.2.1 q = h.2.1 q := fun q hq => a.2.2 q (fun z => by have := hA q z; omega)
  refine ⟨a.fx F, CO_fx a (fun q z => by have := hA q z; omega) c1, fun i hi => by rw [e 23 (Or.inr rfl)]; exact c2 i hi, ?_, by rw [e 1 (by omega)]; exact c4, fun i hi => by rw [e 2 (by omega)]; exact c5 i hi⟩
  rcases c3 with ⟨x1, x2⟩ | ⟨ι, x1, x2, x3⟩
  · exact Or.inl ⟨x1, by rw [e 0 (by omega)]; exact x2⟩
  · exact Or.inr ⟨ι, x1, by rw [e 0 (by omega)]; exact x2, CO_fx a (fun q z => by have := hA q z; omega) x3⟩
/-- the model's part, where only its scratch places changed (and the state is as before) -/
theorem MI_fx {A : List Nat} {h h1 : Hp} {σ im n t ρ} (a : FxA A h h1) (hA : ∀ q, q ∈ A → q = 24 ∨ q = 26 ∨ (30 ≤ q)) (e4 : h1.2.1 24 4 = h.2.1 24 4) (e7 : h1.2.1 24 7 = h.2.1 24 7) (S : MS h1 σ) (M : MI h σ im n t ρ) : MI h1 σ im n t ρ := by
  obtain ⟨-, m2, m3, m4, m5⟩ := M
  have e : ∀ q, q = 25 ∨ q = 27 ∨ q = 29 → h1.2.1 q = h.2.1 q := fun q hq => a.2.2 q (fun z => by have := hA q z; omega)
  unfold MI
  rw [e 25 (by simp), e 27 (by simp), e 29 (by simp), e4, e7]
  exact ⟨S, m2, m3, m4, m5⟩
theorem step_scratch {Pc Pm : Hp → Option (Int32 × Hp)} {Ac Am : List Nat} (hAc : ∀ q, q ∈ Ac → 14 ≤ q ∧ q < 23) (hAm : ∀ q, q ∈ Am → q = 24 ∨ q = 26 ∨ (30 ≤ q ∧ q < 35))
    (hs : ∀ σ h, WF σ → FX h → CO h 5 σ → ∃ r h1, Pc h = some (r, h1) ∧ FxA Ac h h1 ∧ ∀ h', MS h' σ → ∃ h2, Pm h' = some (r, h2) ∧ FxA Am h' h2 ∧ MS h2 σ ∧ h2.2.1 24 4 = h'.2.1 24 4 ∧ h2.2.1 24 7 = h'.2.1 24 7) : Step Pc Pm := by
  intro h ⟨σ, im, n, t, ρ, G, C, M⟩
  obtain ⟨r, h1, e1, e2, e3⟩ := hs σ h G.1 C.1 C.2.1
  have M1 := MI_k (kM_fx e2 C.1 (fun q z => by have := hAc q z; omega)) M
  obtain ⟨h2, f1, f2, f3, f4, f5⟩ := e3 h1 M1.1
  refine ⟨r, h1, h2, e1, f1, M1.1.1, σ, im, n, t, ρ, G, ?_, ?_⟩
  · exact CI_fx f2 (fun q z => by have := hAm q z; omega) (CI_fx e2 (fun q z => by have := hAc q z; omega) C)
  · exact MI_fx f2 (fun q z => by have := hAm q z; omega) f4 f5 f3 M1
theorem e24_of {A : List Nat} {h h' : Hp} (a : FxA A h h') (hA : 24 ∉ A) : h'.2.1 24 4 = h.2.1 24 4 ∧ h'.2.1 24 7 = h.2.1 24 7 := by rw [a.2.2 24 hA]; exact ⟨rfl, rfl⟩
theorem hAc3 : ∀ q, q ∈ [14, 15, 16] → 14 ≤ q ∧ q < 23 := by simp
theorem hAm2 : ∀ q, q ∈ [26, 33] → q = 24 ∨ q = 26 ∨ (30 ≤ q ∧ q < 35) := by simp
theorem s_can : Step (P_X5_can 0) (P_X6_can 24) := step_scratch hAc3 hAm2 (fun σ h W F C => by
  obtain ⟨h1, e1, e2⟩ := c_can W F C
  refine ⟨_, h1, e1, e2, fun h' M => ?_⟩
  obtain ⟨h2, f1, f2, f3⟩ := m_can W M
  exact ⟨h2, by rw [f1, can_eq W], f2, f3, e24_of f2 (by decide)⟩)
theorem s_fewest : Step (P_X5_fewest 0) (P_X6_fewest 24) := step_scratch hAc3 hAm2 (fun σ h W F C => by
  obtain ⟨h1, e1, e2⟩ := c_fewest W F C
  refine ⟨_, h1, e1, e2, fun h' M => ?_⟩
  obtain ⟨h2, f1, f2, f3⟩ := m_fewest W M
  exact ⟨h2, by rw [f1, few_eq W], f2, f3, e24_of f2 (by decide)⟩)
theorem s_cheapest : Step (P_X5_cheapest 0) (P_X6_cheapest 24) := step_scratch hAc3 hAm2 (fun σ h W F C => by
  obtain ⟨h1, e1, e2⟩ := c_cheapest W F C
  refine ⟨_, h1, e1, e2, fun h' M => ?_⟩
  obtain ⟨h2, f1, f2, f3⟩ := m_cheapest W M
  exact ⟨h2, by rw [f1, cheapest_eq W], f2, f3, e24_of f2 (by decide)⟩)
theorem s_nothing : Step (P_X5_nothing 0) (P_X6_nothing 24) := step_scratch hAc3 hAm2 (fun σ h W F C => by
  obtain ⟨h1, e1, e2⟩ := c_nothing W F C
  refine ⟨_, h1, e1, e2, fun h' M => ?_⟩
  obtain ⟨h2, f1, f2, f3⟩ := m_nothing W M
  exact ⟨h2, by rw [f1, nothing_eq W], f2, f3, e24_of f2 (by decide)⟩)
theorem s_states : Step (P_X5_states 0) (P_X6_states 24) := step_scratch hAc3 hAm2 (fun σ h W F C => by
  obtain ⟨h1, e1, e2⟩ := c_states W F C
  refine ⟨_, h1, e1, e2, fun h' M => ?_⟩
  obtain ⟨h2, f1, f2, f3⟩ := m_states W M
  exact ⟨h2, by rw [f1, nothing_eq W], f2, f3, e24_of f2 (by decide)⟩)
theorem hAm3 : ∀ q, q ∈ [24, 26, 33] → q = 24 ∨ q = 26 ∨ (30 ≤ q ∧ q < 35) := by simp
theorem s_been : Step (P_X5_been 0) (P_X6_been 24) := step_scratch hAc3 hAm3 (fun σ h W F C => by
  obtain ⟨h1, e1, e2⟩ := c_been W F C
  refine ⟨_, h1, e1, e2, fun h' M => ?_⟩
  obtain ⟨h2, f1, f2, f3, f4⟩ := m_been W M
  exact ⟨h2, by rw [f1, been_eq W], f2, f3, f4 4 (by decide) (by decide), f4 7 (by decide) (by decide)⟩)
theorem s_sure : Step (P_X5_sure 0) (P_X6_sure 24) := step_scratch hAc3 hAm3 (fun σ h W F C => by
  obtain ⟨h1, e1, e2⟩ := c_sure W F C
  refine ⟨_, h1, e1, e2, fun h' M => ?_⟩
  obtain ⟨h2, f1, f2, f3, f4⟩ := m_sure W M
  exact ⟨h2, by rw [f1, been_eq W, sure_eq W], f2, f3, f4 4 (by decide) (by decide), f4 7 (by decide) (by decide)⟩)
/-- neither changes anything -/
theorem step_read {Pc Pm : Hp → Option (Int32 × Hp)} (hs : ∀ σ h, WF σ → FX h → CO h 5 σ → ∃ r, Pc h = some (r, h) ∧ ∀ h', MS h' σ → Pm h' = some (r, h')) : Step Pc Pm :=
  step_scratch (Ac := []) (Am := []) (by simp) (by simp) (fun σ h W F C => by
    obtain ⟨r, e1, e2⟩ := hs σ h W F C
    exact ⟨r, h, e1, FxA.rf, fun h' M => ⟨h', e2 h' M, FxA.rf, M, rfl, rfl⟩⟩)
theorem COc {h : Hp} {σ : Nat → Nat} (C : CO h 5 σ) : h.2.1 5 7 = I (enc (cur σ)) := C.1.2.2.2.2.2.2.1
theorem cur3 {σ : Nat → Nat} (W : WF σ) : ∀ i, i < 12 → cur σ i < 3 := fun i hi => by have := W.cur i hi; have := W.col; omega
theorem s_state : Step (P_X5_state 0) (P_X6_state 24) := step_read (fun σ h W F C => by
  refine ⟨I (hr (σ 1) (cur σ) 0 (σ 0)), ?_, fun h' M => ?_⟩
  · have hc := COc C
    have hs := c_stateOf F W C W.cur
    unfold P_X5_state
    simp (disch := first | assumption | exact FX_setI ‹_› | exact FX_setI (FX_setI ‹_›) | exact FX_setI (FX_setI (FX_setI ‹_›)) | exact FX_setI (FX_setI (FX_setI (FX_setI ‹_›))) | omega) only [gr_0_0, gr_0_1, gr_0_2, gr_0_3, gr_0_4, gr_0_5, gr_0_6, gr_0_7, gr_1_0, gr_1_5, gr_1_7, gr_5_3, gr_5_9, gr_8_3, gr_8_9, gr_11_3, gr_11_9, gr_14_0, gr_14_1, gr_14_2, gr_18_0, gr_18_1, gr_18_2, gr_24_0, gr_24_1, gr_24_2, gr_24_3, gr_24_5, gr_24_6, gr_24_10, gr_24_11, gr_24_12, gr_24_15, al_2, al_3, al_4, al_7, al_10, al_13, al_15, al_16, al_17, al_19, al_20, al_21, al_22, al_23, al_25, al_26, al_27, al_28, al_29, al_30, al_31, al_32, al_33, al_34, as_2, as_3, as_4, as_7, as_10, as_13, as_15, as_16, as_17, as_19, as_20, as_21, as_22, as_23, as_25, as_26, as_27, as_28, as_29, as_30, as_31, as_32, as_33, as_34, gi_0, gi_1, gi_5, gi_8, gi_11, gi_14, gi_18, gi_24, pi_0, pi_1, pi_5, pi_8, pi_11, pi_14, pi_18, pi_24, rc_0, rc_1, rc_5, rc_8, rc_11, rc_14, rc_18, rc_24, ln_2, ln_3, ln_4, ln_7, ln_10, ln_13, ln_15, ln_16, ln_17, ln_19, ln_20, ln_21, ln_22, ln_23, ln_25, ln_26, ln_27, ln_28, ln_29, ln_30, ln_31, ln_32, ln_33, ln_34, ln_6, ln_9, ln_12, ci_some, cv_some, lt_eq, nn_none, nn_some, setI_1, setI_at, setI_R, upd2_at, I_add, I_addn, Int32.neg_neg, I_mul, I_ltI, I_leI, I_eqI, I_nat, if_true, if_false, reduceIte, reduceIteN, I_difn, bz_0, bz_1, nz_I, I_rem, I_div, I_sub, l4095, l32, l63, l0, l1, l2, l3, l4, l5, l6, l7, l8, l9, l10, l11, l12, l16, l24, l28, l31, l40, l48, l57, l64, l68, l78, l79, l99, l255, l2000, l2187, l1000000000, hc, hs]
  · have hs := m_stateNow W (MSc M) W.cur
    have F' := M.1
    unfold P_X6_state
    simp (disch := first | assumption | exact FX_setI ‹_› | exact FX_setI (FX_setI ‹_›) | exact FX_setI (FX_setI (FX_setI ‹_›)) | exact FX_setI (FX_setI (FX_setI (FX_setI ‹_›))) | omega) only [gr_0_0, gr_0_1, gr_0_2, gr_0_3, gr_0_4, gr_0_5, gr_0_6, gr_0_7, gr_1_0, gr_1_5, gr_1_7, gr_5_3, gr_5_9, gr_8_3, gr_8_9, gr_11_3, gr_11_9, gr_14_0, gr_14_1, gr_14_2, gr_18_0, gr_18_1, gr_18_2, gr_24_0, gr_24_1, gr_24_2, gr_24_3, gr_24_5, gr_24_6, gr_24_10, gr_24_11, gr_24_12, gr_24_15, al_2, al_3, al_4, al_7, al_10, al_13, al_15, al_16, al_17, al_19, al_20, al_21, al_22, al_23, al_25, al_26, al_27, al_28, al_29, al_30, al_31, al_32, al_33, al_34, as_2, as_3, as_4, as_7, as_10, as_13, as_15, as_16, as_17, as_19, as_20, as_21, as_22, as_23, as_25, as_26, as_27, as_28, as_29, as_30, as_31, as_32, as_33, as_34, gi_0, gi_1, gi_5, gi_8, gi_11, gi_14, gi_18, gi_24, pi_0, pi_1, pi_5, pi_8, pi_11, pi_14, pi_18, pi_24, rc_0, rc_1, rc_5, rc_8, rc_11, rc_14, rc_18, rc_24, ln_2, ln_3, ln_4, ln_7, ln_10, ln_13, ln_15, ln_16, ln_17, ln_19, ln_20, ln_21, ln_22, ln_23, ln_25, ln_26, ln_27, ln_28, ln_29, ln_30, ln_31, ln_32, ln_33, ln_34, ln_6, ln_9, ln_12, ci_some, cv_some, lt_eq, nn_none, nn_some, setI_1, setI_at, setI_R, upd2_at, I_add, I_addn, Int32.neg_neg, I_mul, I_ltI, I_leI, I_eqI, I_nat, if_true, if_false, reduceIte, reduceIteN, I_difn, bz_0, bz_1, nz_I, I_rem, I_div, I_sub, l4095, l32, l63, l0, l1, l2, l3, l4, l5, l6, l7, l8, l9, l10, l11, l12, l16, l24, l28, l31, l40, l48, l57, l64, l68, l78, l79, l99, l255, l2000, l2187, l1000000000, hs])
theorem s_wished : Step (P_X5_wished 0) (P_X6_wished 24) := step_read (fun σ h W F C => by
  refine ⟨if wsd σ (cur σ) then I 1 else I 0, ?_, fun h' M => ?_⟩
  · have hc := COc C
    have hs := c_isWish F W C (cur3 W)
    unfold P_X5_wished
    simp (disch := first | assumption | exact FX_setI ‹_› | exact FX_setI (FX_setI ‹_›) | exact FX_setI (FX_setI (FX_setI ‹_›)) | exact FX_setI (FX_setI (FX_setI (FX_setI ‹_›))) | omega) only [gr_0_0, gr_0_1, gr_0_2, gr_0_3, gr_0_4, gr_0_5, gr_0_6, gr_0_7, gr_1_0, gr_1_5, gr_1_7, gr_5_3, gr_5_9, gr_8_3, gr_8_9, gr_11_3, gr_11_9, gr_14_0, gr_14_1, gr_14_2, gr_18_0, gr_18_1, gr_18_2, gr_24_0, gr_24_1, gr_24_2, gr_24_3, gr_24_5, gr_24_6, gr_24_10, gr_24_11, gr_24_12, gr_24_15, al_2, al_3, al_4, al_7, al_10, al_13, al_15, al_16, al_17, al_19, al_20, al_21, al_22, al_23, al_25, al_26, al_27, al_28, al_29, al_30, al_31, al_32, al_33, al_34, as_2, as_3, as_4, as_7, as_10, as_13, as_15, as_16, as_17, as_19, as_20, as_21, as_22, as_23, as_25, as_26, as_27, as_28, as_29, as_30, as_31, as_32, as_33, as_34, gi_0, gi_1, gi_5, gi_8, gi_11, gi_14, gi_18, gi_24, pi_0, pi_1, pi_5, pi_8, pi_11, pi_14, pi_18, pi_24, rc_0, rc_1, rc_5, rc_8, rc_11, rc_14, rc_18, rc_24, ln_2, ln_3, ln_4, ln_7, ln_10, ln_13, ln_15, ln_16, ln_17, ln_19, ln_20, ln_21, ln_22, ln_23, ln_25, ln_26, ln_27, ln_28, ln_29, ln_30, ln_31, ln_32, ln_33, ln_34, ln_6, ln_9, ln_12, ci_some, cv_some, lt_eq, nn_none, nn_some, setI_1, setI_at, setI_R, upd2_at, I_add, I_addn, Int32.neg_neg, I_mul, I_ltI, I_leI, I_eqI, I_nat, if_true, if_false, reduceIte, reduceIteN, I_difn, bz_0, bz_1, nz_I, I_rem, I_div, I_sub, l4095, l32, l63, l0, l1, l2, l3, l4, l5, l6, l7, l8, l9, l10, l11, l12, l16, l24, l28, l31, l40, l48, l57, l64, l68, l78, l79, l99, l255, l2000, l2187, l1000000000, hc, hs]
    cases wsd σ (cur σ) <;> rfl
  · have hs := m_isWished W (MSc M) (fun i hi => by have := cur3 W i hi; omega)
    have F' := M.1
    unfold P_X6_wished
    simp (disch := first | assumption | exact FX_setI ‹_› | exact FX_setI (FX_setI ‹_›) | exact FX_setI (FX_setI (FX_setI ‹_›)) | exact FX_setI (FX_setI (FX_setI (FX_setI ‹_›))) | omega) only [gr_0_0, gr_0_1, gr_0_2, gr_0_3, gr_0_4, gr_0_5, gr_0_6, gr_0_7, gr_1_0, gr_1_5, gr_1_7, gr_5_3, gr_5_9, gr_8_3, gr_8_9, gr_11_3, gr_11_9, gr_14_0, gr_14_1, gr_14_2, gr_18_0, gr_18_1, gr_18_2, gr_24_0, gr_24_1, gr_24_2, gr_24_3, gr_24_5, gr_24_6, gr_24_10, gr_24_11, gr_24_12, gr_24_15, al_2, al_3, al_4, al_7, al_10, al_13, al_15, al_16, al_17, al_19, al_20, al_21, al_22, al_23, al_25, al_26, al_27, al_28, al_29, al_30, al_31, al_32, al_33, al_34, as_2, as_3, as_4, as_7, as_10, as_13, as_15, as_16, as_17, as_19, as_20, as_21, as_22, as_23, as_25, as_26, as_27, as_28, as_29, as_30, as_31, as_32, as_33, as_34, gi_0, gi_1, gi_5, gi_8, gi_11, gi_14, gi_18, gi_24, pi_0, pi_1, pi_5, pi_8, pi_11, pi_14, pi_18, pi_24, rc_0, rc_1, rc_5, rc_8, rc_11, rc_14, rc_18, rc_24, ln_2, ln_3, ln_4, ln_7, ln_10, ln_13, ln_15, ln_16, ln_17, ln_19, ln_20, ln_21, ln_22, ln_23, ln_25, ln_26, ln_27, ln_28, ln_29, ln_30, ln_31, ln_32, ln_33, ln_34, ln_6, ln_9, ln_12, ci_some, cv_some, lt_eq, nn_none, nn_some, setI_1, setI_at, setI_R, upd2_at, I_add, I_addn, Int32.neg_neg, I_mul, I_ltI, I_leI, I_eqI, I_nat, if_true, if_false, reduceIte, reduceIteN, I_difn, bz_0, bz_1, nz_I, I_rem, I_div, I_sub, l4095, l32, l63, l0, l1, l2, l3, l4, l5, l6, l7, l8, l9, l10, l11, l12, l16, l24, l28, l31, l40, l48, l57, l64, l68, l78, l79, l99, l255, l2000, l2187, l1000000000, hs]
    cases wsd σ (cur σ) <;> rfl)
-- ===== refusals =====
theorem c_refuse {h : Hp} (F : FX h) {i : Nat} (hi : i < 7) : P_X5_refuse 0 (I i) h = some (-I i, setI h 23 i (h.2.1 23 i + I 1)) := by
  unfold P_X5_refuse
  simp (disch := first | assumption | exact FX_setI ‹_› | exact FX_setI (FX_setI ‹_›) | exact FX_setI (FX_setI (FX_setI ‹_›)) | exact FX_setI (FX_setI (FX_setI (FX_setI ‹_›))) | omega) only [gr_0_0, gr_0_1, gr_0_2, gr_0_3, gr_0_4, gr_0_5, gr_0_6, gr_0_7, gr_1_0, gr_1_5, gr_1_7, gr_5_3, gr_5_9, gr_8_3, gr_8_9, gr_11_3, gr_11_9, gr_14_0, gr_14_1, gr_14_2, gr_18_0, gr_18_1, gr_18_2, gr_24_0, gr_24_1, gr_24_2, gr_24_3, gr_24_5, gr_24_6, gr_24_10, gr_24_11, gr_24_12, gr_24_15, al_2, al_3, al_4, al_7, al_10, al_13, al_15, al_16, al_17, al_19, al_20, al_21, al_22, al_23, al_25, al_26, al_27, al_28, al_29, al_30, al_31, al_32, al_33, al_34, as_2, as_3, as_4, as_7, as_10, as_13, as_15, as_16, as_17, as_19, as_20, as_21, as_22, as_23, as_25, as_26, as_27, as_28, as_29, as_30, as_31, as_32, as_33, as_34, gi_0, gi_1, gi_5, gi_8, gi_11, gi_14, gi_18, gi_24, pi_0, pi_1, pi_5, pi_8, pi_11, pi_14, pi_18, pi_24, rc_0, rc_1, rc_5, rc_8, rc_11, rc_14, rc_18, rc_24, ln_2, ln_3, ln_4, ln_7, ln_10, ln_13, ln_15, ln_16, ln_17, ln_19, ln_20, ln_21, ln_22, ln_23, ln_25, ln_26, ln_27, ln_28, ln_29, ln_30, ln_31, ln_32, ln_33, ln_34, ln_6, ln_9, ln_12, ci_some, cv_some, lt_eq, nn_none, nn_some, setI_1, setI_at, setI_R, upd2_at, I_add, I_addn, Int32.neg_neg, I_mul, I_ltI, I_leI, I_eqI, I_nat, if_true, if_false, reduceIte, reduceIteN, I_difn, bz_0, bz_1, nz_I, I_rem, I_div, I_sub, l4095, l32, l63, l0, l1, l2, l3, l4, l5, l6, l7, l8, l9, l10, l11, l12, l16, l24, l28, l31, l40, l48, l57, l64, l68, l78, l79, l99, l255, l2000, l2187, l1000000000]
theorem m_refuse {h : Hp} (F : FX h) {i : Nat} (hi : i < 7) : P_X6_refuse 24 (-I i) h = some (-I i, setI h 25 i (h.2.1 25 i + I 1)) := by
  unfold P_X6_refuse
  simp (disch := first | assumption | exact FX_setI ‹_› | exact FX_setI (FX_setI ‹_›) | exact FX_setI (FX_setI (FX_setI ‹_›)) | exact FX_setI (FX_setI (FX_setI (FX_setI ‹_›))) | omega) only [gr_0_0, gr_0_1, gr_0_2, gr_0_3, gr_0_4, gr_0_5, gr_0_6, gr_0_7, gr_1_0, gr_1_5, gr_1_7, gr_5_3, gr_5_9, gr_8_3, gr_8_9, gr_11_3, gr_11_9, gr_14_0, gr_14_1, gr_14_2, gr_18_0, gr_18_1, gr_18_2, gr_24_0, gr_24_1, gr_24_2, gr_24_3, gr_24_5, gr_24_6, gr_24_10, gr_24_11, gr_24_12, gr_24_15, al_2, al_3, al_4, al_7, al_10, al_13, al_15, al_16, al_17, al_19, al_20, al_21, al_22, al_23, al_25, al_26, al_27, al_28, al_29, al_30, al_31, al_32, al_33, al_34, as_2, as_3, as_4, as_7, as_10, as_13, as_15, as_16, as_17, as_19, as_20, as_21, as_22, as_23, as_25, as_26, as_27, as_28, as_29, as_30, as_31, as_32, as_33, as_34, gi_0, gi_1, gi_5, gi_8, gi_11, gi_14, gi_18, gi_24, pi_0, pi_1, pi_5, pi_8, pi_11, pi_14, pi_18, pi_24, rc_0, rc_1, rc_5, rc_8, rc_11, rc_14, rc_18, rc_24, ln_2, ln_3, ln_4, ln_7, ln_10, ln_13, ln_15, ln_16, ln_17, ln_19, ln_20, ln_21, ln_22, ln_23, ln_25, ln_26, ln_27, ln_28, ln_29, ln_30, ln_31, ln_32, ln_33, ln_34, ln_6, ln_9, ln_12, ci_some, cv_some, lt_eq, nn_none, nn_some, setI_1, setI_at, setI_R, upd2_at, I_add, I_addn, Int32.neg_neg, I_mul, I_ltI, I_leI, I_eqI, I_nat, if_true, if_false, reduceIte, reduceIteN, I_difn, bz_0, bz_1, nz_I, I_rem, I_div, I_sub, l4095, l32, l63, l0, l1, l2, l3, l4, l5, l6, l7, l8, l9, l10, l11, l12, l16, l24, l28, l31, l40, l48, l57, l64, l68, l78, l79, l99, l255, l2000, l2187, l1000000000]
/-- both refuse with -i -/
theorem ref_ok {h : Hp} {Pc Pm : Hp → Option (Int32 × Hp)} {i : Nat} (hi : i < 7) {σ im n t ρ} (G : GW σ im n t) (C : CI h σ im n t ρ) (M : MI h σ im n t ρ) (e1 : Pc h = P_X5_refuse 0 (I i) h) (e2 : ∀ h', MI h' σ im n t ρ → Pm h' = P_X6_refuse 24 (-I i) h') :
    ∃ r h1 h2, Pc h = some (r, h1) ∧ Pm h1 = some (r, h2) ∧ FX h1 ∧ Inv h2 := by
  have F := C.1
  have a1 : FxA [23] h (setI h 23 i (h.2.1 23 i + I 1)) := FxA.set (by simp)
  have M1 := MI_k (kM_fx a1 F (by simp)) M
  have F1 := M1.1.1
  refine ⟨-I i, _, _, by rw [e1]; exact c_refuse F hi, by rw [e2 _ M1]; exact m_refuse F1 hi, F1, σ, im, n, t, (fun j => if j = i then ρ i + I 1 else ρ j), G, ?_, ?_⟩
  · obtain ⟨-, c1, c2, c3, c4, c5⟩ := C
    have a2 : FxA [23, 25] h (setI (setI h 23 i (h.2.1 23 i + I 1)) 25 i ((setI h 23 i (h.2.1 23 i + I 1)).2.1 25 i + I 1)) := (FxA.set (by simp)).tr (FxA.set (by simp))
    have e : ∀ q, q ≠ 23 → q ≠ 25 → (setI (setI h 23 i (h.2.1 23 i + I 1)) 25 i ((setI h 23 i (h.2.1 23 i + I 1)).2.1 25 i + I 1)).2.1 q = h.2.1 q := fun q h1 h2 => a2.2.2 q (by simp [h1, h2])
    refine ⟨a2.fx F, CO_fx a2 (by simp) c1, fun j hj => ?_, ?_, by rw [e 1 (by decide) (by decide)]; exact c4, fun j hj => by rw [e 2 (by decide) (by decide)]; exact c5 j hj⟩
    · rw [setI_at, if_neg (by omega), setI_at]
      show _ = if j = i then ρ i + I 1 else ρ j
      by_cases hji : j = i
      · rw [if_pos ⟨rfl, hji⟩, if_pos hji, c2 i hi]
      · rw [if_neg (fun z => hji z.2), if_neg hji, c2 j hj]
    · rcases c3 with ⟨x1, x2⟩ | ⟨ι, x1, x2, x3⟩
      · exact Or.inl ⟨x1, by rw [e 0 (by decide) (by decide)]; exact x2⟩
      · exact Or.inr ⟨ι, x1, by rw [e 0 (by decide) (by decide)]; exact x2, CO_fx a2 (by simp) x3⟩
  · obtain ⟨⟨F', m1⟩, m2, m3, m4, m5⟩ := M1
    generalize setI h 23 i (h.2.1 23 i + I 1) = h1 at *
    refine ⟨⟨FX_setI F', fun j hj => by rw [setI_at, if_neg (by omega)]; exact m1 j hj⟩, fun j hj => ?_, ?_, by rw [setI_at, if_neg (by omega)]; exact m4, fun j hj => by rw [setI_at, if_neg (by omega)]; exact m5 j hj⟩
    · rw [setI_at]
      show _ = if j = i then ρ i + I 1 else ρ j
      by_cases hji : j = i
      · rw [if_pos ⟨rfl, hji⟩, if_pos hji, m2 i hi]
      · rw [if_neg (fun z => hji z.2), if_neg hji, m2 j hj]
    · rcases m3 with ⟨x1, x2⟩ | ⟨ι, x1, x2, x3⟩
      · exact Or.inl ⟨x1, by rw [setI_at, if_neg (by omega)]; exact x2⟩
      · exact Or.inr ⟨ι, x1, by rw [setI_at, if_neg (by omega)]; exact x2, fun j hj => by rw [setI_at, if_neg (by omega)]; exact x3 j hj⟩
/-- scratch or reading at one state: the rest of a call that isn't refused -/
theorem go_ok {h : Hp} {Pc Pm : Hp → Option (Int32 × Hp)} {Ac Am : List Nat} (hAc : ∀ q, q ∈ Ac → 14 ≤ q ∧ q < 23) (hAm : ∀ q, q ∈ Am → q = 24 ∨ q = 26 ∨ (30 ≤ q ∧ q < 35)) {σ im n t ρ} (G : GW σ im n t) (C : CI h σ im n t ρ) (M : MI h σ im n t ρ)
    (hs : ∃ r h1, Pc h = some (r, h1) ∧ FxA Ac h h1 ∧ ∀ h', MS h' σ → ∃ h2, Pm h' = some (r, h2) ∧ FxA Am h' h2 ∧ MS h2 σ ∧ h2.2.1 24 4 = h'.2.1 24 4 ∧ h2.2.1 24 7 = h'.2.1 24 7) :
    ∃ r h1 h2, Pc h = some (r, h1) ∧ Pm h1 = some (r, h2) ∧ FX h1 ∧ Inv h2 := by
  obtain ⟨r, h1, e1, e2, e3⟩ := hs
  have M1 := MI_k (kM_fx e2 C.1 (fun q z => by have := hAc q z; omega)) M
  obtain ⟨h2, f1, f2, f3, f4, f5⟩ := e3 h1 M1.1
  exact ⟨r, h1, h2, e1, f1, M1.1.1, σ, im, n, t, ρ, G, CI_fx f2 (fun q z => by have := hAm q z; omega) (CI_fx e2 (fun q z => by have := hAc q z; omega) C), MI_fx f2 (fun q z => by have := hAm q z; omega) f4 f5 f3 M1⟩
theorem read_ok {h : Hp} {Pc Pm : Hp → Option (Int32 × Hp)} {σ im n t ρ} (G : GW σ im n t) (C : CI h σ im n t ρ) (M : MI h σ im n t ρ) (r : Int32) (e1 : Pc h = some (r, h)) (e2 : ∀ h', MS h' σ → Pm h' = some (r, h')) :
    ∃ r h1 h2, Pc h = some (r, h1) ∧ Pm h1 = some (r, h2) ∧ FX h1 ∧ Inv h2 := ⟨r, h, h, e1, e2 h M.1, M.1.1, σ, im, n, t, ρ, G, C, M⟩
