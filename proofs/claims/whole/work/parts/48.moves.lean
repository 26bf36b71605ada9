theorem CO_w {A : List Nat} {h h1 : Hp} {σ g : Nat → Nat} (a : FxA A h h1) (hA : ∀ q, q ∈ A → q = 5 ∨ (14 ≤ q ∧ q < 24)) (hk : ∀ k, k ≠ 7 → h1.2.1 5 k = h.2.1 5 k) (h7 : h1.2.1 5 7 = I (enc g)) (C : CO h 5 σ) : CO h1 5 (wset σ g) := by
  obtain ⟨⟨k0, k1, k2, k4, k5, k6, k7, k8, k10⟩, hl, hg, hr⟩ := C
  have e7 : h1.2.1 7 = h.2.1 7 := a.2.2 7 (fun z => by have := hA 7 z; omega)
  have w : ∀ j, 16 ≤ j → wset σ g j = σ j := fun j hj => wset_hi hj
  have s1 : stk (wset σ g) = stk σ := msk_congr (fun i hi => by rw [w (28 + i) (by omega)])
  have s2 : mnd (wset σ g) = mnd σ := msk_congr (fun i hi => by rw [w (16 + i) (by omega), w (16 + (i - 12)) (by omega)])
  have s3 : enc (fun i => wset σ g (16 + i)) = enc (fun i => σ (16 + i)) := enc_congr (fun i hi => w (16 + i) (by omega))
  have s4 : enc (fun i => wset σ g (4 + i)) = enc g := enc_congr (fun i hi => wset_w hi)
  unfold CO
  rw [s1, s2, s3, s4, wset_lo (show 0 < 4 by decide), wset_lo (show 1 < 4 by decide), wset_lo (show 2 < 4 by decide), wset_lo (show 3 < 4 by decide), w 78 (by decide), hk 0 (by decide), hk 1 (by decide), hk 2 (by decide), hk 4 (by decide), hk 5 (by decide), hk 6 (by decide), h7, hk 8 (by decide), hk 10 (by decide), a.1, a.2.1]
  refine ⟨⟨k0, k1, k2, k4, k5, k6, rfl, k8, k10⟩, fun i hi => by rw [w (68 + i) (by omega)]; rw [show h1.2.1 (5 + 2) i = h.2.1 (5 + 2) i from congrFun e7 i]; exact hl i hi, fun p hp => ?_, hr⟩
  obtain ⟨q, hq, g1, g2, g3, g4, g5, g6, g7⟩ := hg p hp
  refine ⟨q, hq, ?_⟩
  unfold GO
  rw [a.1, a.2.2 q (fun z => by have := hA q z; omega), w _ (by omega), w _ (by omega), w _ (by omega), w _ (by omega)]
  exact ⟨g1, g2, g3, g4, g5, g6, g7⟩
theorem WF_w {σ g : Nat → Nat} (W : WF σ) (hg : ∀ i, i < 12 → g i < σ 1) (hg0 : ∀ i, σ 0 ≤ i → i < 12 → g i = 0) : WF (wset σ g) := by
  obtain ⟨w0, w1, w2, w3, w4, w5, w6, w7, w8, w9⟩ := W
  have w : ∀ j, 16 ≤ j → wset σ g j = σ j := fun j hj => wset_hi hj
  unfold WF
  rw [wset_lo (show 0 < 4 by decide), wset_lo (show 1 < 4 by decide), wset_lo (show 2 < 4 by decide), wset_lo (show 3 < 4 by decide)]
  refine ⟨w0, w1, w2, w3, fun i hi => by rw [wset_w hi]; exact hg i hi, fun i hi => by rw [w _ (by omega)]; exact w5 i hi, fun i hi => by rw [w _ (by omega)]; exact w6 i hi, fun p hp => ?_, fun i hi => by rw [w _ (by omega)]; exact w8 i hi, fun i h1 h2 => ?_⟩
  · rw [w _ (by omega), w _ (by omega), w _ (by omega), w _ (by omega)]
    exact w7 p hp
  · rw [wset_w h2, w _ (by omega), w _ (by omega)]
    exact ⟨hg0 i h1 h2, (w9 i h1 h2).2⟩
/-- the class's part behind a change of the corridor of now -/
theorem CI_set {A : List Nat} {h h1 : Hp} {σ τ im n t ρ} (a : FxA A h h1) (hA : ∀ q, q ∈ A → q = 5 ∨ q = 7 ∨ (14 ≤ q ∧ q < 23)) (CC : CO h1 5 τ) (C : CI h σ im n t ρ) : CI h1 τ im n t ρ := by
  obtain ⟨F, c1, c2, c3, c4, c5⟩ := C
  have e : ∀ q, q = 0 ∨ q = 1 ∨ q = 2 ∨ q = 23 → h1.2.1 q = h.2.1 q := fun q hq => a.2.2 q (fun z => by have := hA q z; omega)
  refine ⟨a.fx F, CC, fun i hi => by rw [e 23 (by simp)]; exact c2 i hi, ?_, by rw [e 1 (by simp)]; exact c4, fun i hi => by rw [e 2 (by simp)]; exact c5 i hi⟩
  rcases c3 with ⟨x1, x2⟩ | ⟨ι, x1, x2, x3⟩
  · exact Or.inl ⟨x1, by rw [e 0 (by simp)]; exact x2⟩
  · exact Or.inr ⟨ι, x1, by rw [e 0 (by simp)]; exact x2, CO_fx a (fun q z => by have := hA q z; omega) x3⟩
/-- the model's part behind a change of its state -/
theorem MI_set {A : List Nat} {h h1 : Hp} {σ τ im n t ρ} (a : FxA A h h1) (hA : ∀ q, q ∈ A → q = 26 ∨ (30 ≤ q)) (S : MS h1 τ) (M : MI h σ im n t ρ) : MI h1 τ im n t ρ := by
  obtain ⟨-, m2, m3, m4, m5⟩ := M
  have e : ∀ q, q = 24 ∨ q = 25 ∨ q = 27 ∨ q = 29 → h1.2.1 q = h.2.1 q := fun q hq => a.2.2 q (fun z => by have := hA q z; omega)
  unfold MI
  rw [e 24 (by simp), e 25 (by simp), e 27 (by simp), e 29 (by simp)]
  exact ⟨S, m2, m3, m4, m5⟩
/-- both go over to another state -/
theorem move_ok {h : Hp} {Pc Pm : Hp → Option (Int32 × Hp)} {Ac Am : List Nat} (hAc : ∀ q, q ∈ Ac → q = 5 ∨ q = 7 ∨ (14 ≤ q ∧ q < 23)) (hAm : ∀ q, q ∈ Am → q = 26 ∨ (30 ≤ q ∧ q < 35)) {σ τ im n t ρ} (G : GW σ im n t) (W : WF τ) (C : CI h σ im n t ρ) (M : MI h σ im n t ρ)
    (hs : ∃ r h1, Pc h = some (r, h1) ∧ FxA Ac h h1 ∧ CO h1 5 τ ∧ ∀ h', MS h' σ → ∃ h2, Pm h' = some (r, h2) ∧ FxA Am h' h2 ∧ MS h2 τ) :
    ∃ r h1 h2, Pc h = some (r, h1) ∧ Pm h1 = some (r, h2) ∧ FX h1 ∧ Inv h2 := by
  obtain ⟨r, h1, e1, e2, e0, e3⟩ := hs
  have M1 := MI_k (kM_fx e2 C.1 (fun q z => by have := hAc q z; omega)) M
  obtain ⟨h2, f1, f2, f3⟩ := e3 h1 M1.1
  exact ⟨r, h1, h2, e1, f1, M1.1.1, τ, im, n, t, ρ, ⟨W, G.2⟩, CI_fx f2 (fun q z => by have := hAm q z; omega) (CI_set e2 hAc e0 C), MI_set f2 (fun q z => by have := hAm q z; omega) f3 M1⟩
theorem one_msk {k n : Nat} (hk : k < n) : 1 <<< k = msk (fun i => decide (i = k)) n := by
  apply Nat.eq_of_testBit_eq
  intro i
  rw [tb_one, tb_msk]
  by_cases hi : i = k
  · subst hi; simp [hk]
  · simp [hi]
theorem tw_zero {σ : Nat → Nat} (W : WF σ) {t : Nat → Bool} (ht : ∀ i, σ 0 ≤ i → t i = false) : ∀ i, σ 0 ≤ i → i < 12 → tw (σ 1) (cur σ) t i = 0 := by
  intro i h1 h2
  unfold tw cur
  rw [(W.2.2.2.2.2.2.2.2.2 i h1 h2).1, ht i h1]
  simp
theorem s_turn (a : Int32) : Step (P_X5_turn 0 a) (P_X6_turn 24 a) := by
  intro h ⟨σ, im, n, t, ρ, G, C, M⟩
  have W := G.1
  have F := C.1
  have CC := C.2.1
  have hn := W.1
  have hcol := W.col
  rcases in1_cases a (show σ 0 < 2147483648 by omega) with ⟨d, d1, d2, rfl⟩ | hno
  · have hd := c_hasDoor_in F W CC d1 d2
    have hst := c_isStuck F CC d1 (show d ≤ 12 by omega)
    by_cases hs1 : σ (27 + d) = 1
    · refine ref_ok (i := 3) (by decide) G C M ?_ (fun h' M' => ?_)
      · rw [if_pos hs1] at hst
        unfold P_X5_turn
        simp (disch := first | assumption | exact FX_setI ‹_› | exact FX_setI (FX_setI ‹_›) | exact FX_setI (FX_setI (FX_setI ‹_›)) | exact FX_setI (FX_setI (FX_setI (FX_setI ‹_›))) | omega) only [gr_0_0, gr_0_1, gr_0_2, gr_0_3, gr_0_4, gr_0_5, gr_0_6, gr_0_7, gr_1_0, gr_1_5, gr_1_7, gr_5_3, gr_5_9, gr_8_3, gr_8_9, gr_11_3, gr_11_9, gr_14_0, gr_14_1, gr_14_2, gr_18_0, gr_18_1, gr_18_2, gr_24_0, gr_24_1, gr_24_2, gr_24_3, gr_24_5, gr_24_6, gr_24_10, gr_24_11, gr_24_12, gr_24_15, al_2, al_3, al_4, al_7, al_10, al_13, al_15, al_16, al_17, al_19, al_20, al_21, al_22, al_23, al_25, al_26, al_27, al_28, al_29, al_30, al_31, al_32, al_33, al_34, as_2, as_3, as_4, as_7, as_10, as_13, as_15, as_16, as_17, as_19, as_20, as_21, as_22, as_23, as_25, as_26, as_27, as_28, as_29, as_30, as_31, as_32, as_33, as_34, gi_0, gi_1, gi_5, gi_8, gi_11, gi_14, gi_18, gi_24, pi_0, pi_1, pi_5, pi_8, pi_11, pi_14, pi_18, pi_24, rc_0, rc_1, rc_5, rc_8, rc_11, rc_14, rc_18, rc_24, ln_2, ln_3, ln_4, ln_7, ln_10, ln_13, ln_15, ln_16, ln_17, ln_19, ln_20, ln_21, ln_22, ln_23, ln_25, ln_26, ln_27, ln_28, ln_29, ln_30, ln_31, ln_32, ln_33, ln_34, ln_6, ln_9, ln_12, ci_some, cv_some, lt_eq, nn_none, nn_some, setI_1, setI_at, setI_R, upd2_at, I_add, I_addn, Int32.neg_neg, I_mul, I_ltI, I_leI, I_eqI, I_nat, if_true, if_false, reduceIte, reduceIteN, I_difn, bz_0, bz_1, nz_I, I_rem, I_div, I_sub, l4095, l32, l63, l0, l1, l2, l3, l4, l5, l6, l7, l8, l9, l10, l11, l12, l16, l24, l28, l31, l40, l48, l57, l64, l68, l78, l79, l99, l255, l2000, l2187, l1000000000, hd, hst]
        rw [c_refuse F (show 3 < 7 by decide)]
        rfl
      · have hdo := m_isDoor_in W M'.1 d1 d2
        obtain ⟨F', hs⟩ := M'.1
        have e : 28 + d - 1 = 27 + d := by omega
        unfold P_X6_turn
        simp (disch := first | assumption | exact FX_setI ‹_› | exact FX_setI (FX_setI ‹_›) | exact FX_setI (FX_setI (FX_setI ‹_›)) | exact FX_setI (FX_setI (FX_setI (FX_setI ‹_›))) | omega) only [gr_0_0, gr_0_1, gr_0_2, gr_0_3, gr_0_4, gr_0_5, gr_0_6, gr_0_7, gr_1_0, gr_1_5, gr_1_7, gr_5_3, gr_5_9, gr_8_3, gr_8_9, gr_11_3, gr_11_9, gr_14_0, gr_14_1, gr_14_2, gr_18_0, gr_18_1, gr_18_2, gr_24_0, gr_24_1, gr_24_2, gr_24_3, gr_24_5, gr_24_6, gr_24_10, gr_24_11, gr_24_12, gr_24_15, al_2, al_3, al_4, al_7, al_10, al_13, al_15, al_16, al_17, al_19, al_20, al_21, al_22, al_23, al_25, al_26, al_27, al_28, al_29, al_30, al_31, al_32, al_33, al_34, as_2, as_3, as_4, as_7, as_10, as_13, as_15, as_16, as_17, as_19, as_20, as_21, as_22, as_23, as_25, as_26, as_27, as_28, as_29, as_30, as_31, as_32, as_33, as_34, gi_0, gi_1, gi_5, gi_8, gi_11, gi_14, gi_18, gi_24, pi_0, pi_1, pi_5, pi_8, pi_11, pi_14, pi_18, pi_24, rc_0, rc_1, rc_5, rc_8, rc_11, rc_14, rc_18, rc_24, ln_2, ln_3, ln_4, ln_7, ln_10, ln_13, ln_15, ln_16, ln_17, ln_19, ln_20, ln_21, ln_22, ln_23, ln_25, ln_26, ln_27, ln_28, ln_29, ln_30, ln_31, ln_32, ln_33, ln_34, ln_6, ln_9, ln_12, ci_some, cv_some, lt_eq, nn_none, nn_some, setI_1, setI_at, setI_R, upd2_at, I_add, I_addn, Int32.neg_neg, I_mul, I_ltI, I_leI, I_eqI, I_nat, if_true, if_false, reduceIte, reduceIteN, I_difn, bz_0, bz_1, nz_I, I_rem, I_div, I_sub, l4095, l32, l63, l0, l1, l2, l3, l4, l5, l6, l7, l8, l9, l10, l11, l12, l16, l24, l28, l31, l40, l48, l57, l64, l68, l78, l79, l99, l255, l2000, l2187, l1000000000, hdo, hs, e]
        rw [if_neg (show ¬ -I 3 = I 0 by decide), m_refuse F' (show 3 < 7 by decide)]
        rfl
    · have hdl : d - 1 < 12 := by omega
      have htz := tw_zero W (t := fun i => decide (i = d - 1)) (fun i hi => by simp; omega)
      have hlt : ∀ i, i < 12 → tw (σ 1) (cur σ) (fun i => decide (i = d - 1)) i < σ 1 := fun i _ => tw_lt (by omega) _ _ i
      refine move_ok (Ac := [5]) (Am := [26]) (by simp) (by simp) G (WF_w W hlt htz) C M ⟨I (tw (σ 1) (cur σ) (fun i => decide (i = d - 1)) (d - 1)), setI h 5 7 (I (enc (tw (σ 1) (cur σ) (fun i => decide (i = d - 1))))), ?_, FxA.set (by simp), ?_, fun h' M' => ?_⟩
      · rw [if_neg hs1] at hst
        have hc := COc CC
        have k1 := CC.1.2.1
        have ht := turned_enc (c := σ 1) (n := 12) (f := cur σ) (t := fun i => decide (i = d - 1)) W.2.1 (Nat.le_refl _) W.cur
        rw [enc_congr (f := tw (σ 1) (cur σ) (fun i => decide (i < 12) && decide (i = d - 1))) (g := tw (σ 1) (cur σ) (fun i => decide (i = d - 1))) (fun i hi => by unfold tw; simp [hi])] at ht
        have h1d : 1 <<< (d - 1) < 16777216 := by rw [one_msk hdl]; exact Nat.lt_trans (msk_lt _ 12) (by decide)
        have htu := c_turned0 (h := h) (enc_lt (cur σ)) h1d W.2.1
        rw [one_msk hdl, ht, ← one_msk hdl] at htu
        have hbo := c_bitOf (h := h) d1 (show d ≤ 12 by omega)
        have hwo := c_wayOf (h := setI h 5 7 (I (enc (tw (σ 1) (cur σ) (fun i => decide (i = d - 1)))))) (f := tw (σ 1) (cur σ) (fun i => decide (i = d - 1))) d1 (show d ≤ 12 by omega) (by have := hlt (d - 1) hdl; omega)
        unfold P_X5_turn
        simp (disch := first | assumption | exact FX_setI ‹_› | exact FX_setI (FX_setI ‹_›) | exact FX_setI (FX_setI (FX_setI ‹_›)) | exact FX_setI (FX_setI (FX_setI (FX_setI ‹_›))) | omega) only [gr_0_0, gr_0_1, gr_0_2, gr_0_3, gr_0_4, gr_0_5, gr_0_6, gr_0_7, gr_1_0, gr_1_5, gr_1_7, gr_5_3, gr_5_9, gr_8_3, gr_8_9, gr_11_3, gr_11_9, gr_14_0, gr_14_1, gr_14_2, gr_18_0, gr_18_1, gr_18_2, gr_24_0, gr_24_1, gr_24_2, gr_24_3, gr_24_5, gr_24_6, gr_24_10, gr_24_11, gr_24_12, gr_24_15, al_2, al_3, al_4, al_7, al_10, al_13, al_15, al_16, al_17, al_19, al_20, al_21, al_22, al_23, al_25, al_26, al_27, al_28, al_29, al_30, al_31, al_32, al_33, al_34, as_2, as_3, as_4, as_7, as_10, as_13, as_15, as_16, as_17, as_19, as_20, as_21, as_22, as_23, as_25, as_26, as_27, as_28, as_29, as_30, as_31, as_32, as_33, as_34, gi_0, gi_1, gi_5, gi_8, gi_11, gi_14, gi_18, gi_24, pi_0, pi_1, pi_5, pi_8, pi_11, pi_14, pi_18, pi_24, rc_0, rc_1, rc_5, rc_8, rc_11, rc_14, rc_18, rc_24, ln_2, ln_3, ln_4, ln_7, ln_10, ln_13, ln_15, ln_16, ln_17, ln_19, ln_20, ln_21, ln_22, ln_23, ln_25, ln_26, ln_27, ln_28, ln_29, ln_30, ln_31, ln_32, ln_33, ln_34, ln_6, ln_9, ln_12, ci_some, cv_some, lt_eq, nn_none, nn_some, setI_1, setI_at, setI_R, upd2_at, I_add, I_addn, Int32.neg_neg, I_mul, I_ltI, I_leI, I_eqI, I_nat, if_true, if_false, reduceIte, reduceIteN, I_difn, bz_0, bz_1, nz_I, I_rem, I_div, I_sub, l4095, l32, l63, l0, l1, l2, l3, l4, l5, l6, l7, l8, l9, l10, l11, l12, l16, l24, l28, l31, l40, l48, l57, l64, l68, l78, l79, l99, l255, l2000, l2187, l1000000000, hd, hst, hc, k1, hbo, htu, hwo, and_self]
      · exact CO_w (A := [5]) (FxA.set (by simp)) (by simp) (fun k hk => by rw [setI_at, if_neg (by omega)]) (by rw [setI_at, if_pos ⟨rfl, rfl⟩]) CC
      · have hdo := m_isDoor_in W M' d1 d2
        have hcd := W.cur (d - 1) hdl
        have hT := m_turnsDoor W (MSc M') hdl (by omega)
        rw [show d - 1 + 1 = d by omega] at hT
        have hnew := MS_set M' (4 + (d - 1)) ((cur σ (d - 1) + 1) % σ 1)
        refine ⟨_, ?_, FxA.set (A := [26]) (p := 26) (k := 4 + (d - 1)) (v := I ((cur σ (d - 1) + 1) % σ 1)) (by simp), MS_congr hnew (fun j hj => ?_)⟩
        · obtain ⟨F', hs⟩ := M'
          have e : 28 + d - 1 = 27 + d := by omega
          have e2 : 4 + d - 1 = 4 + (d - 1) := by omega
          have hz : σ (27 + d) < 2147483648 := by
            have := W.2.2.2.2.2.2.1 (d - 1) hdl
            rw [show 28 + (d - 1) = 27 + d by omega] at this
            omega
          unfold P_X6_turn
          simp (disch := first | assumption | exact FX_setI ‹_› | exact FX_setI (FX_setI ‹_›) | exact FX_setI (FX_setI (FX_setI ‹_›)) | exact FX_setI (FX_setI (FX_setI (FX_setI ‹_›))) | omega) only [gr_0_0, gr_0_1, gr_0_2, gr_0_3, gr_0_4, gr_0_5, gr_0_6, gr_0_7, gr_1_0, gr_1_5, gr_1_7, gr_5_3, gr_5_9, gr_8_3, gr_8_9, gr_11_3, gr_11_9, gr_14_0, gr_14_1, gr_14_2, gr_18_0, gr_18_1, gr_18_2, gr_24_0, gr_24_1, gr_24_2, gr_24_3, gr_24_5, gr_24_6, gr_24_10, gr_24_11, gr_24_12, gr_24_15, al_2, al_3, al_4, al_7, al_10, al_13, al_15, al_16, al_17, al_19, al_20, al_21, al_22, al_23, al_25, al_26, al_27, al_28, al_29, al_30, al_31, al_32, al_33, al_34, as_2, as_3, as_4, as_7, as_10, as_13, as_15, as_16, as_17, as_19, as_20, as_21, as_22, as_23, as_25, as_26, as_27, as_28, as_29, as_30, as_31, as_32, as_33, as_34, gi_0, gi_1, gi_5, gi_8, gi_11, gi_14, gi_18, gi_24, pi_0, pi_1, pi_5, pi_8, pi_11, pi_14, pi_18, pi_24, rc_0, rc_1, rc_5, rc_8, rc_11, rc_14, rc_18, rc_24, ln_2, ln_3, ln_4, ln_7, ln_10, ln_13, ln_15, ln_16, ln_17, ln_19, ln_20, ln_21, ln_22, ln_23, ln_25, ln_26, ln_27, ln_28, ln_29, ln_30, ln_31, ln_32, ln_33, ln_34, ln_6, ln_9, ln_12, ci_some, cv_some, lt_eq, nn_none, nn_some, setI_1, setI_at, setI_R, upd2_at, I_add, I_addn, Int32.neg_neg, I_mul, I_ltI, I_leI, I_eqI, I_nat, if_true, if_false, reduceIte, reduceIteN, I_difn, bz_0, bz_1, nz_I, I_rem, I_div, I_sub, l4095, l32, l63, l0, l1, l2, l3, l4, l5, l6, l7, l8, l9, l10, l11, l12, l16, l24, l28, l31, l40, l48, l57, l64, l68, l78, l79, l99, l255, l2000, l2187, l1000000000, hdo, hs, e, hT, e2]
          unfold tw
          simp
        · by_cases hj2 : j = 4 + (d - 1)
          · rw [if_pos hj2, hj2, wset_w hdl]
            unfold tw
            simp
          · rw [if_neg hj2]
            unfold wset
            split
            · next hj3 =>
              unfold tw cur
              have hne : ¬ j - 4 = d - 1 := by omega
              have := W.cur (j - 4) (by omega)
              unfold cur at this
              simp only [hne, decide_false, Bool.false_eq_true, if_false, Nat.add_zero]
              rw [Nat.mod_eq_of_lt this]
              congr 1
              omega
            · rfl
  · refine ref_ok (i := 1) (by decide) G C M ?_ (fun h' M' => ?_)
    · have hd := c_hasDoor_no F CC hno
      unfold P_X5_turn
      simp (disch := first | assumption | exact FX_setI ‹_› | exact FX_setI (FX_setI ‹_›) | exact FX_setI (FX_setI (FX_setI ‹_›)) | exact FX_setI (FX_setI (FX_setI (FX_setI ‹_›))) | omega) only [gr_0_0, gr_0_1, gr_0_2, gr_0_3, gr_0_4, gr_0_5, gr_0_6, gr_0_7, gr_1_0, gr_1_5, gr_1_7, gr_5_3, gr_5_9, gr_8_3, gr_8_9, gr_11_3, gr_11_9, gr_14_0, gr_14_1, gr_14_2, gr_18_0, gr_18_1, gr_18_2, gr_24_0, gr_24_1, gr_24_2, gr_24_3, gr_24_5, gr_24_6, gr_24_10, gr_24_11, gr_24_12, gr_24_15, al_2, al_3, al_4, al_7, al_10, al_13, al_15, al_16, al_17, al_19, al_20, al_21, al_22, al_23, al_25, al_26, al_27, al_28, al_29, al_30, al_31, al_32, al_33, al_34, as_2, as_3, as_4, as_7, as_10, as_13, as_15, as_16, as_17, as_19, as_20, as_21, as_22, as_23, as_25, as_26, as_27, as_28, as_29, as_30, as_31, as_32, as_33, as_34, gi_0, gi_1, gi_5, gi_8, gi_11, gi_14, gi_18, gi_24, pi_0, pi_1, pi_5, pi_8, pi_11, pi_14, pi_18, pi_24, rc_0, rc_1, rc_5, rc_8, rc_11, rc_14, rc_18, rc_24, ln_2, ln_3, ln_4, ln_7, ln_10, ln_13, ln_15, ln_16, ln_17, ln_19, ln_20, ln_21, ln_22, ln_23, ln_25, ln_26, ln_27, ln_28, ln_29, ln_30, ln_31, ln_32, ln_33, ln_34, ln_6, ln_9, ln_12, ci_some, cv_some, lt_eq, nn_none, nn_some, setI_1, setI_at, setI_R, upd2_at, I_add, I_addn, Int32.neg_neg, I_mul, I_ltI, I_leI, I_eqI, I_nat, if_true, if_false, reduceIte, reduceIteN, I_difn, bz_0, bz_1, nz_I, I_rem, I_div, I_sub, l4095, l32, l63, l0, l1, l2, l3, l4, l5, l6, l7, l8, l9, l10, l11, l12, l16, l24, l28, l31, l40, l48, l57, l64, l68, l78, l79, l99, l255, l2000, l2187, l1000000000, hd]
      rw [c_refuse F (show 1 < 7 by decide)]
      rfl
    · have hdo := m_isDoor_no M'.1 hno
      have F' := M'.1.1
      unfold P_X6_turn
      simp (disch := first | assumption | exact FX_setI ‹_› | exact FX_setI (FX_setI ‹_›) | exact FX_setI (FX_setI (FX_setI ‹_›)) | exact FX_setI (FX_setI (FX_setI (FX_setI ‹_›))) | omega) only [gr_0_0, gr_0_1, gr_0_2, gr_0_3, gr_0_4, gr_0_5, gr_0_6, gr_0_7, gr_1_0, gr_1_5, gr_1_7, gr_5_3, gr_5_9, gr_8_3, gr_8_9, gr_11_3, gr_11_9, gr_14_0, gr_14_1, gr_14_2, gr_18_0, gr_18_1, gr_18_2, gr_24_0, gr_24_1, gr_24_2, gr_24_3, gr_24_5, gr_24_6, gr_24_10, gr_24_11, gr_24_12, gr_24_15, al_2, al_3, al_4, al_7, al_10, al_13, al_15, al_16, al_17, al_19, al_20, al_21, al_22, al_23, al_25, al_26, al_27, al_28, al_29, al_30, al_31, al_32, al_33, al_34, as_2, as_3, as_4, as_7, as_10, as_13, as_15, as_16, as_17, as_19, as_20, as_21, as_22, as_23, as_25, as_26, as_27, as_28, as_29, as_30, as_31, as_32, as_33, as_34, gi_0, gi_1, gi_5, gi_8, gi_11, gi_14, gi_18, gi_24, pi_0, pi_1, pi_5, pi_8, pi_11, pi_14, pi_18, pi_24, rc_0, rc_1, rc_5, rc_8, rc_11, rc_14, rc_18, rc_24, ln_2, ln_3, ln_4, ln_7, ln_10, ln_13, ln_15, ln_16, ln_17, ln_19, ln_20, ln_21, ln_22, ln_23, ln_25, ln_26, ln_27, ln_28, ln_29, ln_30, ln_31, ln_32, ln_33, ln_34, ln_6, ln_9, ln_12, ci_some, cv_some, lt_eq, nn_none, nn_some, setI_1, setI_at, setI_R, upd2_at, I_add, I_addn, Int32.neg_neg, I_mul, I_ltI, I_leI, I_eqI, I_nat, if_true, if_false, reduceIte, reduceIteN, I_difn, bz_0, bz_1, nz_I, I_rem, I_div, I_sub, l4095, l32, l63, l0, l1, l2, l3, l4, l5, l6, l7, l8, l9, l10, l11, l12, l16, l24, l28, l31, l40, l48, l57, l64, l68, l78, l79, l99, l255, l2000, l2187, l1000000000, hdo]
      rw [if_neg (show ¬ -I 1 = I 0 by decide), m_refuse F' (show 1 < 7 by decide)]
      rfl
theorem pop12 {σ : Nat → Nat} (W : WF σ) (p : Nat) : pop (tm σ p) 12 = cnt (tb1 σ p) (σ 0) := by
  have hn := W.1
  unfold tm
  rw [pop_msk hn.2]
  exact cnt_congr _ (fun i hi => by unfold tb1; simp [hi])
theorem tm_lt {σ : Nat → Nat} (W : WF σ) (p : Nat) : tm σ p < 4096 := by
  have hn := W.1
  have h1 : tm σ p < 2 ^ σ 0 := msk_lt _ _
  have h2 : 2 ^ σ 0 ≤ 2 ^ 12 := Nat.pow_le_pow_right (by decide) hn.2
  have h3 : (2 : Nat) ^ 12 = 4096 := by decide
  omega
/-- one going more -/
def g78 (σ : Nat → Nat) : Nat → Nat := fun j => if j = 78 then σ 78 + 1 else σ j
theorem g78_ne {σ : Nat → Nat} {j : Nat} (h : j ≠ 78) : g78 σ j = σ j := if_neg h
theorem WF_78 {σ : Nat → Nat} (W : WF σ) : WF (g78 σ) := by
  obtain ⟨w0, w1, w2, w3, w4, w5, w6, w7, w8, w9⟩ := W
  unfold WF
  rw [g78_ne (show 0 ≠ 78 by decide), g78_ne (show 1 ≠ 78 by decide), g78_ne (show 2 ≠ 78 by decide), g78_ne (show 3 ≠ 78 by decide)]
  refine ⟨w0, w1, w2, w3, fun i hi => by rw [g78_ne (by omega)]; exact w4 i hi, fun i hi => by rw [g78_ne (by omega)]; exact w5 i hi, fun i hi => by rw [g78_ne (by omega)]; exact w6 i hi, fun p hp => ?_, fun i hi => by rw [g78_ne (by omega)]; exact w8 i hi, fun i h1 h2 => ?_⟩
  · rw [g78_ne (by omega), g78_ne (by omega), g78_ne (by omega), g78_ne (by omega)]
    exact w7 p hp
  · rw [g78_ne (by omega), g78_ne (by omega), g78_ne (by omega)]
    exact w9 i h1 h2
theorem CO_78 {h : Hp} {σ : Nat → Nat} (W : WF σ) (C : CO h 5 σ) : CO (setI h 5 8 (I (σ 78 + 1))) 5 (g78 σ) := by
  obtain ⟨⟨k0, k1, k2, k4, k5, k6, k7, k8, k10⟩, hl, hg, hr⟩ := C
  have h3 := W.2.2.2.1
  have h7 := W.2.2.1
  have s1 : stk (g78 σ) = stk σ := msk_congr (fun i hi => by rw [g78_ne (by omega)])
  have s2 : mnd (g78 σ) = mnd σ := msk_congr (fun i hi => by rw [g78_ne (by omega), g78_ne (by omega)])
  have s3 : enc (fun i => g78 σ (16 + i)) = enc (fun i => σ (16 + i)) := enc_congr (fun i hi => g78_ne (by omega))
  have s4 : enc (fun i => g78 σ (4 + i)) = enc (fun i => σ (4 + i)) := enc_congr (fun i hi => g78_ne (by omega))
  have e : ∀ k, k ≠ 8 → (setI h 5 8 (I (σ 78 + 1))).2.1 5 k = h.2.1 5 k := fun k hk => by rw [setI_at, if_neg (by omega)]
  have e8 : (setI h 5 8 (I (σ 78 + 1))).2.1 5 8 = I (σ 78 + 1) := by rw [setI_at, if_pos ⟨rfl, rfl⟩]
  unfold CO
  rw [s1, s2, s3, s4, g78_ne (show 0 ≠ 78 by decide), g78_ne (show 1 ≠ 78 by decide), g78_ne (show 2 ≠ 78 by decide), g78_ne (show 3 ≠ 78 by decide), e 0 (by decide), e 1 (by decide), e 2 (by decide), e 4 (by decide), e 5 (by decide), e 6 (by decide), e 7 (by decide), e 10 (by decide), e8]
  refine ⟨⟨k0, k1, k2, k4, k5, k6, k7, by unfold g78; rw [if_pos rfl], k10⟩, fun i hi => by rw [g78_ne (by omega), setI_at, if_neg (by omega)]; exact hl i hi, fun p hp => ?_, hr⟩
  obtain ⟨q, hq, g1, g2, g3, g4, g5, g6, g7⟩ := hg p hp
  refine ⟨q, hq, ?_⟩
  unfold GO
  rw [setI_at, if_neg (by omega), setI_at, if_neg (by omega), setI_at, if_neg (by omega), setI_at, if_neg (by omega), g78_ne (by omega), g78_ne (by omega), g78_ne (by omega), g78_ne (by omega)]
  exact ⟨g1, g2, g3, g4, g5, g6, g7⟩
theorem s_go (a : Int32) : Step (P_X5_go 0 a) (P_X6_go 24 a) := by
  intro h ⟨σ, im, n, t, ρ, G, C, M⟩
  have W := G.1
  have F := C.1
  have CC := C.2.1
  have h7 := W.2.2.1
  have hcol := W.col
  rcases in_cases a (show σ 2 < 2147483648 by omega) with ⟨p, hp, rfl⟩ | hno
  · have hlt : ∀ i, i < 12 → tw (σ 1) (cur σ) (tb1 σ p) i < σ 1 := fun i _ => tw_lt (by omega) _ _ i
    have htz := tw_zero W (t := tb1 σ p) (fun i hi => by unfold tb1; simp [Nat.not_lt.mpr hi])
    have W1 := WF_w W hlt htz
    have C1 : CO (setI h 5 7 (I (enc (tw (σ 1) (cur σ) (tb1 σ p))))) 5 (wset σ (tw (σ 1) (cur σ) (tb1 σ p))) :=
      CO_w (A := [5]) (FxA.set (by simp)) (by simp) (fun k hk => by rw [setI_at, if_neg (by omega)]) (by rw [setI_at, if_pos ⟨rfl, rfl⟩]) CC
    have w78 : wset σ (tw (σ 1) (cur σ) (tb1 σ p)) 78 = σ 78 := wset_hi (by decide)
    have C2 := CO_78 W1 C1
    rw [w78] at C2
    refine move_ok (Ac := [5]) (Am := [26]) (by simp) (by simp) G (WF_78 W1) C M ⟨I (cnt (tb1 σ p) (σ 0)), _, ?_, (FxA.set (by simp)).tr (FxA.set (by simp)), C2, fun h' M' => ?_⟩
    · obtain ⟨q, hq, -⟩ := c_goerOf F W CC hp
      have ht := c_turnsOf F W CC hp
      have hc := COc CC
      have k1 := CC.1.2.1
      have k8 := CC.1.2.2.2.2.2.2.2.1
      have htu := c_turned (h := h) W W.cur p
      have hbc := c_bitCount (h := setI (setI h 5 7 (I (enc (tw (σ 1) (cur σ) (tb1 σ p))))) 5 8 (I (σ 78 + 1))) (tm_lt W p)
      rw [pop12 W p] at hbc
      have hga : P_X0_goAlong 5 (I p) h = some (I (cnt (tb1 σ p) (σ 0)), setI (setI h 5 7 (I (enc (tw (σ 1) (cur σ) (tb1 σ p))))) 5 8 (I (σ 78 + 1))) := by
        unfold P_X0_goAlong
        simp (disch := first | assumption | exact FX_setI ‹_› | exact FX_setI (FX_setI ‹_›) | exact FX_setI (FX_setI (FX_setI ‹_›)) | exact FX_setI (FX_setI (FX_setI (FX_setI ‹_›))) | omega) only [gr_0_0, gr_0_1, gr_0_2, gr_0_3, gr_0_4, gr_0_5, gr_0_6, gr_0_7, gr_1_0, gr_1_5, gr_1_7, gr_5_3, gr_5_9, gr_8_3, gr_8_9, gr_11_3, gr_11_9, gr_14_0, gr_14_1, gr_14_2, gr_18_0, gr_18_1, gr_18_2, gr_24_0, gr_24_1, gr_24_2, gr_24_3, gr_24_5, gr_24_6, gr_24_10, gr_24_11, gr_24_12, gr_24_15, al_2, al_3, al_4, al_7, al_10, al_13, al_15, al_16, al_17, al_19, al_20, al_21, al_22, al_23, al_25, al_26, al_27, al_28, al_29, al_30, al_31, al_32, al_33, al_34, as_2, as_3, as_4, as_7, as_10, as_13, as_15, as_16, as_17, as_19, as_20, as_21, as_22, as_23, as_25, as_26, as_27, as_28, as_29, as_30, as_31, as_32, as_33, as_34, gi_0, gi_1, gi_5, gi_8, gi_11, gi_14, gi_18, gi_24, pi_0, pi_1, pi_5, pi_8, pi_11, pi_14, pi_18, pi_24, rc_0, rc_1, rc_5, rc_8, rc_11, rc_14, rc_18, rc_24, ln_2, ln_3, ln_4, ln_7, ln_10, ln_13, ln_15, ln_16, ln_17, ln_19, ln_20, ln_21, ln_22, ln_23, ln_25, ln_26, ln_27, ln_28, ln_29, ln_30, ln_31, ln_32, ln_33, ln_34, ln_6, ln_9, ln_12, ci_some, cv_some, lt_eq, nn_none, nn_some, setI_1, setI_at, setI_R, upd2_at, I_add, I_addn, Int32.neg_neg, I_mul, I_ltI, I_leI, I_eqI, I_nat, if_true, if_false, reduceIte, reduceIteN, I_difn, bz_0, bz_1, nz_I, I_rem, I_div, I_sub, l4095, l32, l63, l0, l1, l2, l3, l4, l5, l6, l7, l8, l9, l10, l11, l12, l16, l24, l28, l31, l40, l48, l57, l64, l68, l78, l79, l99, l255, l2000, l2187, l1000000000, ht, hc, k1, htu, k8, hbc]
      unfold P_X5_go
      simp (disch := first | assumption | exact FX_setI ‹_› | exact FX_setI (FX_setI ‹_›) | exact FX_setI (FX_setI (FX_setI ‹_›)) | exact FX_setI (FX_setI (FX_setI (FX_setI ‹_›))) | omega) only [gr_0_0, gr_0_1, gr_0_2, gr_0_3, gr_0_4, gr_0_5, gr_0_6, gr_0_7, gr_1_0, gr_1_5, gr_1_7, gr_5_3, gr_5_9, gr_8_3, gr_8_9, gr_11_3, gr_11_9, gr_14_0, gr_14_1, gr_14_2, gr_18_0, gr_18_1, gr_18_2, gr_24_0, gr_24_1, gr_24_2, gr_24_3, gr_24_5, gr_24_6, gr_24_10, gr_24_11, gr_24_12, gr_24_15, al_2, al_3, al_4, al_7, al_10, al_13, al_15, al_16, al_17, al_19, al_20, al_21, al_22, al_23, al_25, al_26, al_27, al_28, al_29, al_30, al_31, al_32, al_33, al_34, as_2, as_3, as_4, as_7, as_10, as_13, as_15, as_16, as_17, as_19, as_20, as_21, as_22, as_23, as_25, as_26, as_27, as_28, as_29, as_30, as_31, as_32, as_33, as_34, gi_0, gi_1, gi_5, gi_8, gi_11, gi_14, gi_18, gi_24, pi_0, pi_1, pi_5, pi_8, pi_11, pi_14, pi_18, pi_24, rc_0, rc_1, rc_5, rc_8, rc_11, rc_14, rc_18, rc_24, ln_2, ln_3, ln_4, ln_7, ln_10, ln_13, ln_15, ln_16, ln_17, ln_19, ln_20, ln_21, ln_22, ln_23, ln_25, ln_26, ln_27, ln_28, ln_29, ln_30, ln_31, ln_32, ln_33, ln_34, ln_6, ln_9, ln_12, ci_some, cv_some, lt_eq, nn_none, nn_some, setI_1, setI_at, setI_R, upd2_at, I_add, I_addn, Int32.neg_neg, I_mul, I_ltI, I_leI, I_eqI, I_nat, if_true, if_false, reduceIte, reduceIteN, I_difn, bz_0, bz_1, nz_I, I_rem, I_div, I_sub, l4095, l32, l63, l0, l1, l2, l3, l4, l5, l6, l7, l8, l9, l10, l11, l12, l16, l24, l28, l31, l40, l48, l57, l64, l68, l78, l79, l99, l255, l2000, l2187, l1000000000, hq, hga]
    · have hpe := m_isPerson_in W M' hp
      have M1 : MS (setI h' 26 78 (I (σ 78 + 1))) (wset (g78 σ) (cur σ)) := by
        refine MS_congr (MS_set M' 78 (σ 78 + 1)) (fun j hj => ?_)
        by_cases hj78 : j = 78
        · rw [if_pos hj78, hj78, wset_hi (by decide)]
          unfold g78
          rw [if_pos rfl]
        · rw [if_neg hj78]
          unfold wset
          split
          · unfold cur
            exact congrArg σ (by omega)
          · rw [g78_ne hj78]
      have Wg := WF_78 W
      have hcur78 : cur (g78 σ) = cur (g78 σ) := rfl
      obtain ⟨h2, e1, e2, e3⟩ := m_goes (f := cur σ) Wg (p := p) (by rw [g78_ne (by decide)]; exact hp) (fun i hi => by rw [g78_ne (by decide)]; exact W.cur i hi) M1
      have htb : tb1 (g78 σ) p = tb1 σ p := by
        funext i
        unfold tb1
        rw [g78_ne (show 0 ≠ 78 by decide)]
        by_cases hi : i < σ 0
        · have hn := W.1
          unfold tn gp
          rw [g78_ne (by omega), g78_ne (by omega), g78_ne (by omega), g78_ne (by omega)]
        · simp [hi]
      rw [htb, g78_ne (show 1 ≠ 78 by decide)] at e3
      rw [htb, g78_ne (show 0 ≠ 78 by decide)] at e1
      refine ⟨h2, ?_, (FxA.set (by simp)).tr e2, MS_congr e3 (fun j hj => ?_)⟩
      · obtain ⟨F', hs⟩ := M'
        unfold P_X6_go
        simp (disch := first | assumption | exact FX_setI ‹_› | exact FX_setI (FX_setI ‹_›) | exact FX_setI (FX_setI (FX_setI ‹_›)) | exact FX_setI (FX_setI (FX_setI (FX_setI ‹_›))) | omega) only [gr_0_0, gr_0_1, gr_0_2, gr_0_3, gr_0_4, gr_0_5, gr_0_6, gr_0_7, gr_1_0, gr_1_5, gr_1_7, gr_5_3, gr_5_9, gr_8_3, gr_8_9, gr_11_3, gr_11_9, gr_14_0, gr_14_1, gr_14_2, gr_18_0, gr_18_1, gr_18_2, gr_24_0, gr_24_1, gr_24_2, gr_24_3, gr_24_5, gr_24_6, gr_24_10, gr_24_11, gr_24_12, gr_24_15, al_2, al_3, al_4, al_7, al_10, al_13, al_15, al_16, al_17, al_19, al_20, al_21, al_22, al_23, al_25, al_26, al_27, al_28, al_29, al_30, al_31, al_32, al_33, al_34, as_2, as_3, as_4, as_7, as_10, as_13, as_15, as_16, as_17, as_19, as_20, as_21, as_22, as_23, as_25, as_26, as_27, as_28, as_29, as_30, as_31, as_32, as_33, as_34, gi_0, gi_1, gi_5, gi_8, gi_11, gi_14, gi_18, gi_24, pi_0, pi_1, pi_5, pi_8, pi_11, pi_14, pi_18, pi_24, rc_0, rc_1, rc_5, rc_8, rc_11, rc_14, rc_18, rc_24, ln_2, ln_3, ln_4, ln_7, ln_10, ln_13, ln_15, ln_16, ln_17, ln_19, ln_20, ln_21, ln_22, ln_23, ln_25, ln_26, ln_27, ln_28, ln_29, ln_30, ln_31, ln_32, ln_33, ln_34, ln_6, ln_9, ln_12, ci_some, cv_some, lt_eq, nn_none, nn_some, setI_1, setI_at, setI_R, upd2_at, I_add, I_addn, Int32.neg_neg, I_mul, I_ltI, I_leI, I_eqI, I_nat, if_true, if_false, reduceIte, reduceIteN, I_difn, bz_0, bz_1, nz_I, I_rem, I_div, I_sub, l4095, l32, l63, l0, l1, l2, l3, l4, l5, l6, l7, l8, l9, l10, l11, l12, l16, l24, l28, l31, l40, l48, l57, l64, l68, l78, l79, l99, l255, l2000, l2187, l1000000000, hpe, hs, e1]
      · unfold wset g78
        by_cases hj78 : j = 78
        · rw [if_neg (by omega), if_pos hj78, if_pos hj78]
          exact congrArg (fun x => x + 1) (if_neg (show ¬ (4 ≤ 78 ∧ 78 < 16) by decide)).symm
        · rw [if_neg hj78, if_neg hj78]
  · refine ref_ok (i := 1) (by decide) G C M ?_ (fun h' M' => ?_)
    · have hg := c_goerOf_no F W CC hno
      unfold P_X5_go
      simp (disch := first | assumption | exact FX_setI ‹_› | exact FX_setI (FX_setI ‹_›) | exact FX_setI (FX_setI (FX_setI ‹_›)) | exact FX_setI (FX_setI (FX_setI (FX_setI ‹_›))) | omega) only [gr_0_0, gr_0_1, gr_0_2, gr_0_3, gr_0_4, gr_0_5, gr_0_6, gr_0_7, gr_1_0, gr_1_5, gr_1_7, gr_5_3, gr_5_9, gr_8_3, gr_8_9, gr_11_3, gr_11_9, gr_14_0, gr_14_1, gr_14_2, gr_18_0, gr_18_1, gr_18_2, gr_24_0, gr_24_1, gr_24_2, gr_24_3, gr_24_5, gr_24_6, gr_24_10, gr_24_11, gr_24_12, gr_24_15, al_2, al_3, al_4, al_7, al_10, al_13, al_15, al_16, al_17, al_19, al_20, al_21, al_22, al_23, al_25, al_26, al_27, al_28, al_29, al_30, al_31, al_32, al_33, al_34, as_2, as_3, as_4, as_7, as_10, as_13, as_15, as_16, as_17, as_19, as_20, as_21, as_22, as_23, as_25, as_26, as_27, as_28, as_29, as_30, as_31, as_32, as_33, as_34, gi_0, gi_1, gi_5, gi_8, gi_11, gi_14, gi_18, gi_24, pi_0, pi_1, pi_5, pi_8, pi_11, pi_14, pi_18, pi_24, rc_0, rc_1, rc_5, rc_8, rc_11, rc_14, rc_18, rc_24, ln_2, ln_3, ln_4, ln_7, ln_10, ln_13, ln_15, ln_16, ln_17, ln_19, ln_20, ln_21, ln_22, ln_23, ln_25, ln_26, ln_27, ln_28, ln_29, ln_30, ln_31, ln_32, ln_33, ln_34, ln_6, ln_9, ln_12, ci_some, cv_some, lt_eq, nn_none, nn_some, setI_1, setI_at, setI_R, upd2_at, I_add, I_addn, Int32.neg_neg, I_mul, I_ltI, I_leI, I_eqI, I_nat, if_true, if_false, reduceIte, reduceIteN, I_difn, bz_0, bz_1, nz_I, I_rem, I_div, I_sub, l4095, l32, l63, l0, l1, l2, l3, l4, l5, l6, l7, l8, l9, l10, l11, l12, l16, l24, l28, l31, l40, l48, l57, l64, l68, l78, l79, l99, l255, l2000, l2187, l1000000000, hg]
      rw [c_refuse F (show 1 < 7 by decide)]
      rfl
    · have hpe := m_isPerson_no M'.1 hno
      have F' := M'.1.1
      unfold P_X6_go
      simp (disch := first | assumption | exact FX_setI ‹_› | exact FX_setI (FX_setI ‹_›) | exact FX_setI (FX_setI (FX_setI ‹_›)) | exact FX_setI (FX_setI (FX_setI (FX_setI ‹_›))) | omega) only [gr_0_0, gr_0_1, gr_0_2, gr_0_3, gr_0_4, gr_0_5, gr_0_6, gr_0_7, gr_1_0, gr_1_5, gr_1_7, gr_5_3, gr_5_9, gr_8_3, gr_8_9, gr_11_3, gr_11_9, gr_14_0, gr_14_1, gr_14_2, gr_18_0, gr_18_1, gr_18_2, gr_24_0, gr_24_1, gr_24_2, gr_24_3, gr_24_5, gr_24_6, gr_24_10, gr_24_11, gr_24_12, gr_24_15, al_2, al_3, al_4, al_7, al_10, al_13, al_15, al_16, al_17, al_19, al_20, al_21, al_22, al_23, al_25, al_26, al_27, al_28, al_29, al_30, al_31, al_32, al_33, al_34, as_2, as_3, as_4, as_7, as_10, as_13, as_15, as_16, as_17, as_19, as_20, as_21, as_22, as_23, as_25, as_26, as_27, as_28, as_29, as_30, as_31, as_32, as_33, as_34, gi_0, gi_1, gi_5, gi_8, gi_11, gi_14, gi_18, gi_24, pi_0, pi_1, pi_5, pi_8, pi_11, pi_14, pi_18, pi_24, rc_0, rc_1, rc_5, rc_8, rc_11, rc_14, rc_18, rc_24, ln_2, ln_3, ln_4, ln_7, ln_10, ln_13, ln_15, ln_16, ln_17, ln_19, ln_20, ln_21, ln_22, ln_23, ln_25, ln_26, ln_27, ln_28, ln_29, ln_30, ln_31, ln_32, ln_33, ln_34, ln_6, ln_9, ln_12, ci_some, cv_some, lt_eq, nn_none, nn_some, setI_1, setI_at, setI_R, upd2_at, I_add, I_addn, Int32.neg_neg, I_mul, I_ltI, I_leI, I_eqI, I_nat, if_true, if_false, reduceIte, reduceIteN, I_difn, bz_0, bz_1, nz_I, I_rem, I_div, I_sub, l4095, l32, l63, l0, l1, l2, l3, l4, l5, l6, l7, l8, l9, l10, l11, l12, l16, l24, l28, l31, l40, l48, l57, l64, l68, l78, l79, l99, l255, l2000, l2187, l1000000000, hpe]
      rw [m_refuse F' (show 1 < 7 by decide)]
      rfl
