/-- what the model's reader knows of the statement it has read -/
def DTm (t : Nat → Nat) (n i : Nat) (h : Hp) : Prop :=
  (0 < hds (t i) → (hds (t i) ≤ 2 → h.2.1 30 0 = I (oa t n i)) ∧ (hds (t i) = 12 → h.2.1 24 9 = I (ok1 t n i) ∧ ∀ x, x < ok1 t n i → h.2.1 30 x = I (od t i x)))
  ∧ (t i = 112 → h.2.1 30 0 = I (kdn (t (i + 1))) ∧ h.2.1 30 1 = I (qA t n i) ∧ h.2.1 30 2 = I (qB t n i) ∧ h.2.1 30 3 = I (qC t n i))
theorem m_rsN {t : Nat → Nat} {n i mm : Nat} {x4 x y z : Int32} {h : Hp} (hn : n ≤ 64) (ht : ∀ i, i < n → t i ≤ 255) (T : TM t n x4 h) (ha : h.2.1 24 8 = I (i + 1)) (hi : i < 800) (hmm : mm ≤ 2) (hz : z = I 0) (hx : x = I mm) (hy : y = I 59) (hm : hds (t i) = mm) (h0 : 0 < mm) :
    OUT A2 (TM t n x4) 24 8 (rc h 24 6 <| ci (P_X6_readsNumber 24 z x h) fun v5 h5 => if v5 = 0 then some (0, h5) else rc h5 24 6 <| ci (P_X6_takes 24 y h5) fun v h6 => if v = 0 then some (0, h6) else some (1, h6)) h (rsD t n mm (i + 1)) (DTm t n i) := by
  have hl := dcn_le t n mm (i + 1)
  rw [rc_24 T.1]
  refine OUT_bnd (m_number (c := 0) hn ht T ha (by omega) (by decide) (by omega) hz hx) (fun h1 a1 T1 b1 ⟨d1, d2⟩ => ?_)
  rw [rc_24 T1.1]
  refine OUT_last (m_takes hn ht T1 b1 (by show i + 1 + dcn t n (i + 1) mm < 1000; omega) (show 59 < 256 by decide) hy) (fun h2 a2 T2 ⟨e0, e1, e2⟩ => ?_)
  refine ⟨fun _ => ⟨fun _ => ?_, fun q => by omega⟩, fun q => ?_⟩
  · rw [e1, d1]
    unfold oa
    rw [hm]
  · rw [q, hds_112] at hm
    omega
theorem m_rsR {t : Nat → Nat} {n i : Nat} {x4 y : Int32} {h : Hp} (hn : n ≤ 64) (ht : ∀ i, i < n → t i ≤ 255) (T : TM t n x4 h) (ha : h.2.1 24 8 = I (i + 1)) (hi : i < 800) (hy : y = I 59) (hm : hds (t i) = 12) :
    OUT A2 (TM t n x4) 24 8 (rc h 24 6 <| ci (P_X6_readsRow 24 h) fun v5 h5 => if v5 = 0 then some (0, h5) else rc h5 24 6 <| ci (P_X6_takes 24 y h5) fun v h6 => if v = 0 then some (0, h6) else some (1, h6)) h (rsD t n 12 (i + 1)) (DTm t n i) := by
  have hl := dcn_le t n 12 (i + 1)
  rw [rc_24 T.1]
  refine OUT_bnd (m_row hn ht T ha (by omega)) (fun h1 a1 T1 b1 ⟨d1, d2⟩ => ?_)
  rw [rc_24 T1.1]
  refine OUT_last (m_takes hn ht T1 b1 (by show i + 1 + dcn t n (i + 1) 12 < 1000; omega) (show 59 < 256 by decide) hy) (fun h2 a2 T2 ⟨e0, e1, e2⟩ => ?_)
  refine ⟨fun _ => ⟨fun q => by omega, fun _ => ?_⟩, fun q => ?_⟩
  · unfold ok1 od
    rw [hm, e1, e2]
    exact ⟨d1, d2⟩
  · rw [q, hds_112] at hm
    omega
theorem m_rsP {t : Nat → Nat} {n i : Nat} {x4 x1 x2 x3 x4' x5 x6 k1 k2 k3 : Int32} {h : Hp} (hn : n ≤ 64) (ht : ∀ i, i < n → t i ≤ 255) (T : TM t n x4 h) (ha : h.2.1 24 8 = I (i + 1)) (hi : i < 800) (hk1 : k1 = I 1) (hx1 : x1 = I 2) (hx2 : x2 = I 44) (hk2 : k2 = I 2) (hx3 : x3 = I 2) (hx4 : x4' = I 44) (hk3 : k3 = I 3) (hx5 : x5 = I 1) (hx6 : x6 = I 59) (hm : t i = 112) :
    OUT A2 (TM t n x4) 24 8 (rc h 24 6 <| ci (P_X6_readsKind 24 h) fun v12 h14 => if v12 = 0 then some (0, h14) else
      rc h14 24 6 <| ci (P_X6_readsNumber 24 k1 x1 h14) fun v13 h15 => if v13 = 0 then some (0, h15) else
      rc h15 24 6 <| ci (P_X6_takes 24 x2 h15) fun v14 h16 => if v14 = 0 then some (0, h16) else
      rc h16 24 6 <| ci (P_X6_readsNumber 24 k2 x3 h16) fun v15 h17 => if v15 = 0 then some (0, h17) else
      rc h17 24 6 <| ci (P_X6_takes 24 x4' h17) fun v16 h18 => if v16 = 0 then some (0, h18) else
      rc h18 24 6 <| ci (P_X6_readsNumber 24 k3 x5 h18) fun v17 h19 => if v17 = 0 then some (0, h19) else
      rc h19 24 6 <| ci (P_X6_takes 24 x6 h19) fun v18 h20 => if v18 = 0 then some (0, h20) else some (1, h20)) h (rsP t n (i + 1)) (DTm t n i) := by
  have l1' := dcn_le t n 2 (i + 2)
  have l2' := dcn_le t n 2 (q2 t n i)
  have l3' := dcn_le t n 1 (q3 t n i)
  have u2 : q2 t n i < i + 6 := by unfold q2; omega
  have u3 : q3 t n i < i + 10 := by unfold q3; omega
  unfold rsP
  rw [rc_24 T.1]
  refine OUT_bnd (m_kind hn ht T ha (by omega)) (fun h1 a1 T1 b1 ⟨p1, k4⟩ => ?_)
  have p1' : (kdS t n (i + 1)).2 = i + 2 := p1
  rw [p1'] at b1 ⊢
  rw [rc_24 T1.1]
  refine OUT_bnd (m_number (c := 1) hn ht T1 b1 (by omega) (by decide) (by decide) hk1 hx1) (fun h2 a2 T2 b2 ⟨d1, d2⟩ => ?_)
  rw [rc_24 T2.1]
  refine OUT_bnd (m_takes hn ht T2 b2 (by show i + 2 + dcn t n (i + 2) 2 < 1000; omega) (show 44 < 256 by decide) hx2) (fun h3 a3 T3 b3 ⟨p3, e1, e2⟩ => ?_)
  have p3' : (tkS t n 44 (rdS t n 2 (i + 2)).2).2 = q2 t n i := p3
  rw [p3'] at b3 ⊢
  rw [rc_24 T3.1]
  refine OUT_bnd (m_number (c := 2) hn ht T3 b3 (by omega) (by decide) (by decide) hk2 hx3) (fun h4 a4 T4 b4 ⟨f1, f2⟩ => ?_)
  rw [rc_24 T4.1]
  refine OUT_bnd (m_takes hn ht T4 b4 (by show q2 t n i + dcn t n (q2 t n i) 2 < 1000; omega) (show 44 < 256 by decide) hx4) (fun h5 a5 T5 b5 ⟨p5, g1, g2⟩ => ?_)
  have p5' : (tkS t n 44 (rdS t n 2 (q2 t n i)).2).2 = q3 t n i := p5
  rw [p5'] at b5 ⊢
  rw [rc_24 T5.1]
  refine OUT_bnd (m_number (c := 3) hn ht T5 b5 (by omega) (by decide) (by decide) hk3 hx5) (fun h6 a6 T6 b6 ⟨j1, j2⟩ => ?_)
  rw [rc_24 T6.1]
  refine OUT_last (m_takes hn ht T6 b6 (by show q3 t n i + dcn t n (q3 t n i) 1 < 1000; omega) (show 59 < 256 by decide) hx6) (fun h7 a7 T7 ⟨p7, o1, o2⟩ => ?_)
  refine ⟨fun z => ?_, fun _ => ⟨?_, ?_, ?_, ?_⟩⟩
  · rw [hm, hds_112] at z
    omega
  · rw [o1, j2 0 (by decide), g1, f2 0 (by decide), e1, d2 0 (by decide), k4]
  · rw [o1, j2 1 (by decide), g1, f2 1 (by decide), e1, d1]
    rfl
  · rw [o1, j2 2 (by decide), g1, f1]
    rfl
  · rw [o1, j1]
    rfl
theorem ne10 : ((1 : Int32) = 0) = False := by decide
theorem m_stmt {t : Nat → Nat} {n i : Nat} {x4 : Int32} {h : Hp} (hn : n ≤ 64) (ht : ∀ i, i < n → t i ≤ 255) (T0 : TM t n x4 h) (ha : h.2.1 24 8 = I i) (hi : i ≤ 64) : OUT A2 (TM t n x4) 24 8 (P_X6_readsStatement 24 h) h (rsS t n i) (DTm t n i) := by
  have F := T0.1
  have hs := m_sign hn T0 ha (by omega)
  have F4 : FX (setI h 24 8 (I (i + 1))) := F
  have T4 : TM t n x4 (setI h 24 8 (I (i + 1))) := TM_at T0 (by decide)
  have a4 : (setI h 24 8 (I (i + 1))).2.1 24 8 = I (i + 1) := by rw [setI_at, if_pos ⟨rfl, rfl⟩]
  have A4' : FxA A2 h (setI h 24 8 (I (i + 1))) := FxA.set (by decide)
  have no : ∀ (c : Nat), c < 256 → ¬ (i < n ∧ t i = c) → ¬ sg t n i = I c := fun c hc hno z => hno (isc_iff.mp ((sg_is ht hc).mp z))
  have yes : ∀ (c : Nat), (i < n ∧ t i = c) → sg t n i = I c := fun c hy => by
    unfold sg
    rw [if_pos hy.1, hy.2]
  unfold P_X6_readsStatement rsS
  simp only [lt_eq, eq_self, if_true, ne10, if_false]
  rw [rc_24 F, hs, ci_some, gi_24 F, ha, pi_24 F, show I i + 1 = I (i + 1) from I_add i 1]
  rw [show (104 : Int32) = I 104 from rfl, show (107 : Int32) = I 107 from rfl, show (110 : Int32) = I 110 from rfl, show (112 : Int32) = I 112 from rfl, show (115 : Int32) = I 115 from rfl, show (119 : Int32) = I 119 from rfl]
  by_cases h1 : i < n ∧ t i = 104
  · rw [if_pos (yes 104 h1), if_neg (show ¬ (i < n ∧ t i = 112) by omega), if_pos ⟨h1.1, by rw [h1.2]; decide⟩]
    exact OUT_pre A4' (by
      have := m_rsR (y := 59) hn ht T4 a4 (by omega) rfl (by rw [h1.2]; rfl)
      rw [h1.2]
      exact this)
  rw [if_neg (no 104 (by decide) h1)]
  by_cases h2 : i < n ∧ t i = 107
  · rw [if_pos (yes 107 h2), if_neg (show ¬ (i < n ∧ t i = 112) by omega), if_pos ⟨h2.1, by rw [h2.2]; decide⟩]
    exact OUT_pre A4' (by
      have := m_rsN (mm := 1) (z := 0) (x := 1) (y := 59) hn ht T4 a4 (by omega) (by decide) rfl rfl rfl (by rw [h2.2]; rfl) (by decide)
      rw [h2.2]
      exact this)
  rw [if_neg (no 107 (by decide) h2)]
  by_cases h3 : i < n ∧ t i = 110
  · rw [if_pos (yes 110 h3), if_neg (show ¬ (i < n ∧ t i = 112) by omega), if_pos ⟨h3.1, by rw [h3.2]; decide⟩]
    exact OUT_pre A4' (by
      have := m_rsN (mm := 2) (z := 0) (x := 2) (y := 59) hn ht T4 a4 (by omega) (by decide) rfl rfl rfl (by rw [h3.2]; rfl) (by decide)
      rw [h3.2]
      exact this)
  rw [if_neg (no 110 (by decide) h3)]
  by_cases h4 : i < n ∧ t i = 112
  · rw [if_pos (yes 112 h4), if_pos h4]
    exact OUT_pre A4' (m_rsP hn ht T4 a4 (by omega) rfl rfl rfl rfl rfl rfl rfl rfl rfl h4.2)
  rw [if_neg (no 112 (by decide) h4), if_neg h4]
  by_cases h5 : i < n ∧ t i = 115
  · rw [if_pos (yes 115 h5), if_pos ⟨h5.1, by rw [h5.2]; decide⟩]
    exact OUT_pre A4' (by
      have := m_rsN (mm := 2) (z := 0) (x := 2) (y := 59) hn ht T4 a4 (by omega) (by decide) rfl rfl rfl (by rw [h5.2]; rfl) (by decide)
      rw [h5.2]
      exact this)
  rw [if_neg (no 115 (by decide) h5)]
  by_cases h6 : i < n ∧ t i = 119
  · rw [if_pos (yes 119 h6), if_pos ⟨h6.1, by rw [h6.2]; decide⟩]
    exact OUT_pre A4' (by
      have := m_rsR (y := 59) hn ht T4 a4 (by omega) rfl (by rw [h6.2]; rfl)
      rw [h6.2]
      exact this)
  have hz : ¬ (i < n ∧ 0 < hds (t i)) := fun ⟨y1, y2⟩ => by
    unfold hds at y2
    rw [if_neg (by omega), if_neg (by omega), if_neg (by omega)] at y2
    omega
  rw [if_neg (no 119 (by decide) h6), if_neg hz, gi_24 F4, a4, pi_24 F4, show I (i + 1) - 1 = I i by rw [show (1 : Int32) = I 1 from rfl, I_sub (by omega), Nat.add_sub_cancel]]
  exact ⟨_, rfl, A4'.tr (FxA.set (by decide)), TM_at T4 (by decide), by rw [setI_at, if_pos ⟨rfl, rfl⟩], fun z => by cases z⟩
/-! What the model's statement does -/
def RD (h : Hp) (σ : Nat → Nat) : Prop := FX h ∧ ∀ j, j < 79 → h.2.1 28 j = I (σ j)
theorem RD_set {h : Hp} {σ : Nat → Nat} (R : RD h σ) (k v : Nat) : RD (setI h 28 k (I v)) (upn σ k v) := ⟨FX_setI R.1, fun j hj => by
  rw [setI_at]
  by_cases e : j = k
  · rw [if_pos ⟨rfl, e⟩, e, upn_at]
  · rw [if_neg (fun z => e z.2), upn_ne e]
    exact R.2 j hj⟩
theorem RD_congr {h : Hp} {σ τ : Nat → Nat} (R : RD h σ) (e : ∀ j, j < 79 → σ j = τ j) : RD h τ := ⟨R.1, fun j hj => by rw [← e j hj]; exact R.2 j hj⟩
def OBm (o : Option (Int32 × Hp)) (h : Hp) (x : Option (Nat → Nat)) : Prop := ∃ h', o = some (bi x.isSome, h') ∧ FxA [28] h h' ∧ ∀ τ, x = some τ → RD h' τ
theorem OBm_no {o : Option (Int32 × Hp)} {h : Hp} (e : o = some (I 0, h)) : OBm o h none := ⟨h, e, FxA.rf, fun τ z => by cases z⟩
theorem OBm_yes {τ : Nat → Nat} {o : Option (Int32 × Hp)} {h h' : Hp} (f : FxA [28] h h') (C : RD h' τ) (e : o = some (I 1, h')) : OBm o h (some τ) := ⟨h', e, f, fun τ' z => by injection z with z; rw [← z]; exact C⟩
def clp (σ : Nat → Nat) (i : Nat) : Nat → Nat := fun j => if 4 ≤ j ∧ j < 4 + i then 0 else if 16 ≤ j ∧ j < 16 + i then 9 else if 28 ≤ j ∧ j < 28 + i then 0 else σ j
theorem m_clears_L {σ : Nat → Nat} : ∀ (k i m : Nat) (h : Hp), i + k = 12 → k < m → RD h (clp σ i) → ∃ h', P_X6_clearsRead_L2 m 24 (I i) h = some h' ∧ FxA [28] h h' ∧ RD h' (clr σ) := by
  intro k
  induction k with
  | zero =>
    intro i m h hi hm R
    cases m with
    | zero => omega
    | succ m =>
      have e : i = 12 := by omega
      subst e
      have F := R.1
      refine ⟨h, ?_, FxA.rf, R⟩
      unfold P_X6_clearsRead_L2
      simp (disch := first | assumption | exact FX_setI ‹_› | exact FX_setI (FX_setI ‹_›) | exact FX_setI (FX_setI (FX_setI ‹_›)) | exact FX_setI (FX_setI (FX_setI (FX_setI ‹_›))) | omega) only [gr_0_0, gr_0_1, gr_0_2, gr_0_3, gr_0_4, gr_0_5, gr_0_6, gr_0_7, gr_1_0, gr_1_5, gr_1_7, gr_5_3, gr_5_9, gr_8_3, gr_8_9, gr_11_3, gr_11_9, gr_14_0, gr_14_1, gr_14_2, gr_18_0, gr_18_1, gr_18_2, gr_24_0, gr_24_1, gr_24_2, gr_24_3, gr_24_5, gr_24_6, gr_24_10, gr_24_11, gr_24_12, gr_24_15, al_2, al_3, al_4, al_7, al_10, al_13, al_15, al_16, al_17, al_19, al_20, al_21, al_22, al_23, al_25, al_26, al_27, al_28, al_29, al_30, al_31, al_32, al_33, al_34, as_2, as_3, as_4, as_7, as_10, as_13, as_15, as_16, as_17, as_19, as_20, as_21, as_22, as_23, as_25, as_26, as_27, as_28, as_29, as_30, as_31, as_32, as_33, as_34, gi_0, gi_1, gi_5, gi_8, gi_11, gi_14, gi_18, gi_24, pi_0, pi_1, pi_5, pi_8, pi_11, pi_14, pi_18, pi_24, rc_0, rc_1, rc_5, rc_8, rc_11, rc_14, rc_18, rc_24, ln_2, ln_3, ln_4, ln_7, ln_10, ln_13, ln_15, ln_16, ln_17, ln_19, ln_20, ln_21, ln_22, ln_23, ln_25, ln_26, ln_27, ln_28, ln_29, ln_30, ln_31, ln_32, ln_33, ln_34, ln_6, ln_9, ln_12, ciN, cvN, lt_eq, nn_none, nn_some, setI_1, setI_at, setI_R, upd2_at, I_add, I_addn, Int32.neg_neg, I_mul, I_ltI, I_leI, I_eqI, I_nat, if_true, if_false, reduceIte, reduceIteN, I_difn, bz_0, bz_1, nz_I, I_rem, I_div, I_sub, l4095, l32, l63, l0, l1, l2, l3, l4, l5, l6, l7, l8, l9, l10, l11, l12, l16, l24, l28, l31, l40, l48, l57, l64, l68, l78, l79, l99, l255, l2000, l2187, l1000000000]
  | succ k ih =>
    intro i m h hi hm R
    cases m with
    | zero => omega
    | succ m =>
      have F := R.1
      have R3 := RD_set (RD_set (RD_set R (4 + i) 0) (16 + i) 9) (28 + i) 0
      obtain ⟨h', r1, r2, r3⟩ := ih (i + 1) m _ (by omega) (by omega) (RD_congr R3 (τ := clp σ (i + 1)) (fun j hj => by
        unfold upn clp
        by_cases e1 : j = 28 + i
        · rw [if_pos e1, if_neg (by omega), if_neg (by omega), if_pos (by omega)]
        rw [if_neg e1]
        by_cases e2 : j = 16 + i
        · rw [if_pos e2, if_neg (by omega), if_pos (by omega)]
        rw [if_neg e2]
        by_cases e3 : j = 4 + i
        · rw [if_pos e3, if_pos (by omega)]
        rw [if_neg e3]
        by_cases e4 : 4 ≤ j ∧ j < 4 + i
        · rw [if_pos e4, if_pos (by omega)]
        rw [if_neg e4, if_neg (show ¬ (4 ≤ j ∧ j < 4 + (i + 1)) by omega)]
        by_cases e5 : 16 ≤ j ∧ j < 16 + i
        · rw [if_pos e5, if_pos (by omega)]
        rw [if_neg e5, if_neg (show ¬ (16 ≤ j ∧ j < 16 + (i + 1)) by omega)]
        by_cases e6 : 28 ≤ j ∧ j < 28 + i
        · rw [if_pos e6, if_pos (by omega)]
        rw [if_neg e6, if_neg (show ¬ (28 ≤ j ∧ j < 28 + (i + 1)) by omega)]))
      refine ⟨h', ?_, (((FxA.set (by simp)).tr (FxA.set (by simp))).tr (FxA.set (by simp))).tr r2, r3⟩
      unfold P_X6_clearsRead_L2
      simp (disch := first | assumption | exact FX_setI ‹_› | exact FX_setI (FX_setI ‹_›) | exact FX_setI (FX_setI (FX_setI ‹_›)) | exact FX_setI (FX_setI (FX_setI (FX_setI ‹_›))) | omega) only [gr_0_0, gr_0_1, gr_0_2, gr_0_3, gr_0_4, gr_0_5, gr_0_6, gr_0_7, gr_1_0, gr_1_5, gr_1_7, gr_5_3, gr_5_9, gr_8_3, gr_8_9, gr_11_3, gr_11_9, gr_14_0, gr_14_1, gr_14_2, gr_18_0, gr_18_1, gr_18_2, gr_24_0, gr_24_1, gr_24_2, gr_24_3, gr_24_5, gr_24_6, gr_24_10, gr_24_11, gr_24_12, gr_24_15, al_2, al_3, al_4, al_7, al_10, al_13, al_15, al_16, al_17, al_19, al_20, al_21, al_22, al_23, al_25, al_26, al_27, al_28, al_29, al_30, al_31, al_32, al_33, al_34, as_2, as_3, as_4, as_7, as_10, as_13, as_15, as_16, as_17, as_19, as_20, as_21, as_22, as_23, as_25, as_26, as_27, as_28, as_29, as_30, as_31, as_32, as_33, as_34, gi_0, gi_1, gi_5, gi_8, gi_11, gi_14, gi_18, gi_24, pi_0, pi_1, pi_5, pi_8, pi_11, pi_14, pi_18, pi_24, rc_0, rc_1, rc_5, rc_8, rc_11, rc_14, rc_18, rc_24, ln_2, ln_3, ln_4, ln_7, ln_10, ln_13, ln_15, ln_16, ln_17, ln_19, ln_20, ln_21, ln_22, ln_23, ln_25, ln_26, ln_27, ln_28, ln_29, ln_30, ln_31, ln_32, ln_33, ln_34, ln_6, ln_9, ln_12, ciN, cvN, lt_eq, nn_none, nn_some, setI_1, setI_at, setI_R, upd2_at, I_add, I_addn, Int32.neg_neg, I_mul, I_ltI, I_leI, I_eqI, I_nat, if_true, if_false, reduceIte, reduceIteN, I_difn, bz_0, bz_1, nz_I, I_rem, I_div, I_sub, l4095, l32, l63, l0, l1, l2, l3, l4, l5, l6, l7, l8, l9, l10, l11, l12, l16, l24, l28, l31, l40, l48, l57, l64, l68, l78, l79, l99, l255, l2000, l2187, l1000000000]
      exact r1
theorem m_clears {σ : Nat → Nat} {h : Hp} (R : RD h σ) : ∃ h', P_X6_clearsRead 24 h = some h' ∧ FxA [28] h h' ∧ RD h' (clr σ) := by
  have R0 : RD h (clp σ 0) := RD_congr R (fun j hj => by unfold clp; rw [if_neg (by omega), if_neg (by omega), if_neg (by omega)])
  obtain ⟨h', r1, r2, r3⟩ := m_clears_L 12 0 FU h (by omega) (by have := FU_eq; omega) R0
  exact ⟨h', by unfold P_X6_clearsRead; exact r1, r2, r3⟩
theorem m_check {σ dg : Nat → Nat} {h : Hp} (W : WF σ) (R : RD h σ) (h9 : h.2.1 24 9 = I (σ 0)) (hd : ∀ x, x < σ 0 → h.2.1 30 x = I (dg x)) (hdg : ∀ x, x < σ 0 → dg x ≤ 9) {c : Nat} (hc : c = 104 ∨ c = 119) (kont : Hp → Option (Int32 × Hp)) :
    ∀ (k x m : Nat), x + k = σ 0 → k < m → (∀ y, y < x → (if c = 104 then fh σ dg else fw σ dg) y = true) → P_X6_comesRow_L17 m 24 (I c) (I x) h kont = if alr (if c = 104 then fh σ dg else fw σ dg) (σ 0) = true then kont h else some (I 0, h) := by
  have hw := W.1
  have hcol := W.col
  have F := R.1
  have s1 := R.2 1 (by decide)
  intro k
  induction k with
  | zero =>
    intro x m hx hm hy
    cases m with
    | zero => omega
    | succ m =>
      have e : x = σ 0 := by omega
      subst e
      rw [if_pos ((alr_iff _).mpr hy)]
      unfold P_X6_comesRow_L17
      simp (disch := first | assumption | exact FX_setI ‹_› | exact FX_setI (FX_setI ‹_›) | exact FX_setI (FX_setI (FX_setI ‹_›)) | exact FX_setI (FX_setI (FX_setI (FX_setI ‹_›))) | omega) only [gr_0_0, gr_0_1, gr_0_2, gr_0_3, gr_0_4, gr_0_5, gr_0_6, gr_0_7, gr_1_0, gr_1_5, gr_1_7, gr_5_3, gr_5_9, gr_8_3, gr_8_9, gr_11_3, gr_11_9, gr_14_0, gr_14_1, gr_14_2, gr_18_0, gr_18_1, gr_18_2, gr_24_0, gr_24_1, gr_24_2, gr_24_3, gr_24_5, gr_24_6, gr_24_10, gr_24_11, gr_24_12, gr_24_15, al_2, al_3, al_4, al_7, al_10, al_13, al_15, al_16, al_17, al_19, al_20, al_21, al_22, al_23, al_25, al_26, al_27, al_28, al_29, al_30, al_31, al_32, al_33, al_34, as_2, as_3, as_4, as_7, as_10, as_13, as_15, as_16, as_17, as_19, as_20, as_21, as_22, as_23, as_25, as_26, as_27, as_28, as_29, as_30, as_31, as_32, as_33, as_34, gi_0, gi_1, gi_5, gi_8, gi_11, gi_14, gi_18, gi_24, pi_0, pi_1, pi_5, pi_8, pi_11, pi_14, pi_18, pi_24, rc_0, rc_1, rc_5, rc_8, rc_11, rc_14, rc_18, rc_24, ln_2, ln_3, ln_4, ln_7, ln_10, ln_13, ln_15, ln_16, ln_17, ln_19, ln_20, ln_21, ln_22, ln_23, ln_25, ln_26, ln_27, ln_28, ln_29, ln_30, ln_31, ln_32, ln_33, ln_34, ln_6, ln_9, ln_12, ciN, cvN, lt_eq, nn_none, nn_some, setI_1, setI_at, setI_R, upd2_at, I_add, I_addn, Int32.neg_neg, I_mul, I_ltI, I_leI, I_eqI, I_nat, if_true, if_false, reduceIte, reduceIteN, I_difn, bz_0, bz_1, nz_I, I_rem, I_div, I_sub, l4095, l32, l63, l0, l1, l2, l3, l4, l5, l6, l7, l8, l9, l10, l11, l12, l16, l24, l28, l31, l40, l48, l57, l64, l68, l78, l79, l99, l255, l2000, l2187, l1000000000, h9]
  | succ k ih =>
    intro x m hx hm hy
    cases m with
    | zero => omega
    | succ m =>
      have hxn : x < σ 0 := by omega
      have hdx := hd x hxn
      have h9' := hdg x hxn
      have hr := fun (hf : (if c = 104 then fh σ dg else fw σ dg) x = true) => ih (x + 1) m (by omega) (by omega) (fun y hy' => by
        by_cases e : y = x
        · rw [e]; exact hf
        · exact hy y (by omega))
      by_cases hlt : dg x < σ 1
      · have r1 := hr (by
          split
          · unfold fh; simp [hlt]
          · unfold fw; simp [hlt])
        unfold P_X6_comesRow_L17
        simp (disch := first | assumption | exact FX_setI ‹_› | exact FX_setI (FX_setI ‹_›) | exact FX_setI (FX_setI (FX_setI ‹_›)) | exact FX_setI (FX_setI (FX_setI (FX_setI ‹_›))) | omega) only [gr_0_0, gr_0_1, gr_0_2, gr_0_3, gr_0_4, gr_0_5, gr_0_6, gr_0_7, gr_1_0, gr_1_5, gr_1_7, gr_5_3, gr_5_9, gr_8_3, gr_8_9, gr_11_3, gr_11_9, gr_14_0, gr_14_1, gr_14_2, gr_18_0, gr_18_1, gr_18_2, gr_24_0, gr_24_1, gr_24_2, gr_24_3, gr_24_5, gr_24_6, gr_24_10, gr_24_11, gr_24_12, gr_24_15, al_2, al_3, al_4, al_7, al_10, al_13, al_15, al_16, al_17, al_19, al_20, al_21, al_22, al_23, al_25, al_26, al_27, al_28, al_29, al_30, al_31, al_32, al_33, al_34, as_2, as_3, as_4, as_7, as_10, as_13, as_15, as_16, as_17, as_19, as_20, as_21, as_22, as_23, as_25, as_26, as_27, as_28, as_29, as_30, as_31, as_32, as_33, as_34, gi_0, gi_1, gi_5, gi_8, gi_11, gi_14, gi_18, gi_24, pi_0, pi_1, pi_5, pi_8, pi_11, pi_14, pi_18, pi_24, rc_0, rc_1, rc_5, rc_8, rc_11, rc_14, rc_18, rc_24, ln_2, ln_3, ln_4, ln_7, ln_10, ln_13, ln_15, ln_16, ln_17, ln_19, ln_20, ln_21, ln_22, ln_23, ln_25, ln_26, ln_27, ln_28, ln_29, ln_30, ln_31, ln_32, ln_33, ln_34, ln_6, ln_9, ln_12, ciN, cvN, lt_eq, nn_none, nn_some, setI_1, setI_at, setI_R, upd2_at, I_add, I_addn, Int32.neg_neg, I_mul, I_ltI, I_leI, I_eqI, I_nat, if_true, if_false, reduceIte, reduceIteN, I_difn, bz_0, bz_1, nz_I, I_rem, I_div, I_sub, l4095, l32, l63, l0, l1, l2, l3, l4, l5, l6, l7, l8, l9, l10, l11, l12, l16, l24, l28, l31, l40, l48, l57, l64, l68, l78, l79, l99, l255, l2000, l2187, l1000000000, h9, hdx, s1]
        exact r1
      · rcases hc with rfl | rfl
        · rw [if_pos rfl, if_neg (by rw [alr_no hxn (by unfold fh; simp [hlt])]; decide)]
          unfold P_X6_comesRow_L17
          rw [gi_24 F, h9, if_neg (by rw [I_leI (by omega) (by omega)]; omega), gr_24_6 F, al_30 F (by omega), hdx, gr_24_3 F, show (1 : Int32) = I 1 from rfl, al_28 F (by decide), s1, if_neg (by rw [I_ltI (by omega) (by omega)]; omega), if_pos (by rfl)]
          rfl
        · rw [if_neg (show ¬ (119 : Nat) = 104 by decide)] at hr ⊢
          by_cases h9x : dg x = 9
          · have r1 := hr (by unfold fw; simp [h9x])
            unfold P_X6_comesRow_L17
            rw [gi_24 F, h9, if_neg (by rw [I_leI (by omega) (by omega)]; omega), gr_24_6 F, al_30 F (by omega), hdx, gr_24_3 F, show (1 : Int32) = I 1 from rfl, al_28 F (by decide), s1, if_neg (by rw [I_ltI (by omega) (by omega)]; omega), if_neg (by decide), gr_24_6 F, al_30 F (by omega), hdx, if_pos (by rw [h9x]; rfl), I_add, lt_eq]
            exact r1
          · rw [if_neg (by rw [alr_no hxn (by unfold fw; simp [hlt, h9x])]; decide)]
            unfold P_X6_comesRow_L17
            rw [gi_24 F, h9, if_neg (by rw [I_leI (by omega) (by omega)]; omega), gr_24_6 F, al_30 F (by omega), hdx, gr_24_3 F, show (1 : Int32) = I 1 from rfl, al_28 F (by decide), s1, if_neg (by rw [I_ltI (by omega) (by omega)]; omega), if_neg (by decide), gr_24_6 F, al_30 F (by omega), hdx, if_neg (by show ¬ I (dg x) = I 9; rw [I_eqI (by omega) (by decide)]; exact h9x)]
            rfl
theorem m_setrow {σ dg : Nat → Nat} (W : WF σ) {c b : Nat} (hc : (c = 104 ∧ b = 4) ∨ (c = 119 ∧ b = 16)) : ∀ (k x m : Nat) (h : Hp), x + k = σ 0 → k < m → RD h (rowset σ b dg x) → h.2.1 24 9 = I (σ 0) → (∀ x, x < σ 0 → h.2.1 30 x = I (dg x)) →
    ∃ h', P_X6_comesRow_L67 m 24 (I c) (I x) h = some (I 1, h') ∧ FxA [28] h h' ∧ RD h' (rowset σ b dg (σ 0)) := by
  have hw := W.1
  intro k
  induction k with
  | zero =>
    intro x m h hx hm R h9 hd
    cases m with
    | zero => omega
    | succ m =>
      have e : x = σ 0 := by omega
      subst e
      have F := R.1
      refine ⟨h, ?_, FxA.rf, R⟩
      unfold P_X6_comesRow_L67
      simp (disch := first | assumption | exact FX_setI ‹_› | exact FX_setI (FX_setI ‹_›) | exact FX_setI (FX_setI (FX_setI ‹_›)) | exact FX_setI (FX_setI (FX_setI (FX_setI ‹_›))) | omega) only [gr_0_0, gr_0_1, gr_0_2, gr_0_3, gr_0_4, gr_0_5, gr_0_6, gr_0_7, gr_1_0, gr_1_5, gr_1_7, gr_5_3, gr_5_9, gr_8_3, gr_8_9, gr_11_3, gr_11_9, gr_14_0, gr_14_1, gr_14_2, gr_18_0, gr_18_1, gr_18_2, gr_24_0, gr_24_1, gr_24_2, gr_24_3, gr_24_5, gr_24_6, gr_24_10, gr_24_11, gr_24_12, gr_24_15, al_2, al_3, al_4, al_7, al_10, al_13, al_15, al_16, al_17, al_19, al_20, al_21, al_22, al_23, al_25, al_26, al_27, al_28, al_29, al_30, al_31, al_32, al_33, al_34, as_2, as_3, as_4, as_7, as_10, as_13, as_15, as_16, as_17, as_19, as_20, as_21, as_22, as_23, as_25, as_26, as_27, as_28, as_29, as_30, as_31, as_32, as_33, as_34, gi_0, gi_1, gi_5, gi_8, gi_11, gi_14, gi_18, gi_24, pi_0, pi_1, pi_5, pi_8, pi_11, pi_14, pi_18, pi_24, rc_0, rc_1, rc_5, rc_8, rc_11, rc_14, rc_18, rc_24, ln_2, ln_3, ln_4, ln_7, ln_10, ln_13, ln_15, ln_16, ln_17, ln_19, ln_20, ln_21, ln_22, ln_23, ln_25, ln_26, ln_27, ln_28, ln_29, ln_30, ln_31, ln_32, ln_33, ln_34, ln_6, ln_9, ln_12, ciN, cvN, lt_eq, nn_none, nn_some, setI_1, setI_at, setI_R, upd2_at, I_add, I_addn, Int32.neg_neg, I_mul, I_ltI, I_leI, I_eqI, I_nat, if_true, if_false, reduceIte, reduceIteN, I_difn, bz_0, bz_1, nz_I, I_rem, I_div, I_sub, l4095, l32, l63, l0, l1, l2, l3, l4, l5, l6, l7, l8, l9, l10, l11, l12, l16, l24, l28, l31, l40, l48, l57, l64, l68, l78, l79, l99, l255, l2000, l2187, l1000000000, h9]
  | succ k ih =>
    intro x m h hx hm R h9 hd
    cases m with
    | zero => omega
    | succ m =>
      have hxn : x < σ 0 := by omega
      have F := R.1
      have hdx := hd x hxn
      have R1 := RD_congr (RD_set R (b + x) (dg x)) (τ := rowset σ b dg (x + 1)) (fun j hj => by
        unfold upn rowset
        by_cases e1 : j = b + x
        · rw [if_pos e1, if_pos (by omega), e1, Nat.add_sub_cancel_left]
        rw [if_neg e1]
        by_cases e2 : b ≤ j ∧ j < b + x
        · rw [if_pos e2, if_pos (by omega)]
        · rw [if_neg e2, if_neg (by omega)])
      obtain ⟨h', r1, r2, r3⟩ := ih (x + 1) m (setI h 28 (b + x) (I (dg x))) (by omega) (by omega) R1 (by rw [setI_ne (by decide)]; exact h9) (fun y hy => by rw [setI_ne (by decide)]; exact hd y hy)
      refine ⟨h', ?_, (FxA.set (by simp)).tr r2, r3⟩
      rcases hc with ⟨rfl, rfl⟩ | ⟨rfl, rfl⟩
      · unfold P_X6_comesRow_L67
        rw [gi_24 F, h9, if_neg (by rw [I_leI (by omega) (by omega)]; omega), gr_24_3 F, if_pos (by rfl), gr_24_6 F, al_30 F (by omega), hdx, show (4 : Int32) + I x = I (4 + x) from I_add 4 x, as_28 F (by omega), lt_eq, show I x + 1 = I (x + 1) from I_add x 1]
        exact r1
      · unfold P_X6_comesRow_L67
        rw [gi_24 F, h9, if_neg (by rw [I_leI (by omega) (by omega)]; omega), gr_24_3 F, if_neg (by decide), gr_24_6 F, al_30 F (by omega), hdx, show (16 : Int32) + I x = I (16 + x) from I_add 16 x, as_28 F (by omega), lt_eq, show I x + 1 = I (x + 1) from I_add x 1]
        exact r1
theorem rowset_0 (σ dg : Nat → Nat) (b : Nat) : rowset σ b dg 0 = σ := by
  funext j
  unfold rowset
  rw [if_neg (by omega)]
