theorem dcn_le (t : Nat → Nat) (n : Nat) : ∀ m i, dcn t n i m ≤ m
  | 0, _ => Nat.le_refl _
  | m + 1, i => by
    rw [dcn_succ]
    have := dcn_le t n m (i + 1)
    split <;> omega
theorem c_digits {t : Nat → Nat} {n i c mm : Nat} {hd x : Int32} {h : Hp} (hn : n ≤ 64) (ht : ∀ i, i < n → t i ≤ 255) (T : TC t n hd h) (ha : h.2.1 1 2 = I i) (hi : i < 900) (hc : c < 3) (h6 : h.2.1 1 6 = I c) (hmm : mm ≤ 12) (hx : x = I mm) : OUT A3 (TC t n hd) 1 2 (P_X3_readDigits 1 x h) h (rdS t n mm i) (fun h' => DD t h c i 0 (dcn t n i mm) 0 h') := by
  have F := T.1
  have T1 : TC t n hd (setI h 1 8 (I 0)) := TC_at T (by decide)
  obtain ⟨h', r1, r2, r3, r4, r5⟩ := c_digits_L hn ht hc hmm mm 0 FU i 0 (setI h 1 8 (I 0)) (by omega) (by have := FU_eq; omega) (by omega) T1 (by rw [setI_at, if_neg (by decide)]; exact ha) (by rw [setI_at, if_pos ⟨rfl, rfl⟩]) (by rw [setI_at, if_neg (by decide)]; exact h6)
  rw [Nat.zero_add] at r1
  refine ⟨h', ?_, (FxA.set (by decide)).tr r2, r3, r4, fun _ => ?_⟩
  · rw [hx]
    unfold P_X3_readDigits rdS
    rw [lt_eq, show (0 : Int32) = I 0 from rfl, pi_1 F]
    exact r1
  · obtain ⟨d1, d2, d3, d4, d5, d6, d7⟩ := r5
    exact ⟨d1, d2, fun x hx => by rw [d3 x hx, setI_ne (by decide)], by rw [d4, setI_at, if_neg (by decide)], d5, fun x hx => by omega, d7⟩
def kl : Nat → Nat
  | 0 => 109
  | 1 => 100
  | 2 => 98
  | 3 => 101
  | 4 => 120
  | _ => 117
theorem kl_lt (v : Nat) : kl v < 256 := by
  unfold kl
  split <;> decide
theorem kdn_kl {v : Nat} (hv : v < 6) : kdn (kl v) = v := by
  match v, hv with
  | 0, _ => rfl
  | 1, _ => rfl
  | 2, _ => rfl
  | 3, _ => rfl
  | 4, _ => rfl
  | 5, _ => rfl
theorem kl_kdn {c : Nat} (h : kdn c < 6) : kl (kdn c) = c := by
  unfold kdn at h ⊢
  by_cases h1 : c = 98
  · rw [if_pos h1, h1]; rfl
  rw [if_neg h1] at h ⊢
  by_cases h2 : c = 100
  · rw [if_pos h2, h2]; rfl
  rw [if_neg h2] at h ⊢
  by_cases h3 : c = 101
  · rw [if_pos h3, h3]; rfl
  rw [if_neg h3] at h ⊢
  by_cases h4 : c = 109
  · rw [if_pos h4, h4]; rfl
  rw [if_neg h4] at h ⊢
  by_cases h5 : c = 117
  · rw [if_pos h5, h5]; rfl
  rw [if_neg h5] at h ⊢
  by_cases h6 : c = 120
  · rw [if_pos h6, h6]; rfl
  rw [if_neg h6] at h
  omega
theorem kc_I {α : Type} {v : Nat} {f : Int32 → Option α} (hv : v < 6) : kc (I v) f = f (I (kl v)) := by
  unfold kc
  rw [I_nat (by omega), if_pos ⟨I_pos (by omega), hv⟩]
  match v, hv with
  | 0, _ => rfl
  | 1, _ => rfl
  | 2, _ => rfl
  | 3, _ => rfl
  | 4, _ => rfl
  | 5, _ => rfl
theorem isc_iff {t : Nat → Nat} {n i c : Nat} : isc t n i c = true ↔ i < n ∧ t i = c := by
  unfold isc
  simp
theorem c_kind_L {t : Nat → Nat} {n i : Nat} {hd : Int32} (hn : n ≤ 64) (ht : ∀ i, i < n → t i ≤ 255) {h : Hp} (T : TC t n hd h) (ha : h.2.1 1 2 = I i) (hi : i < 900) : ∀ (k v m : Nat), v + k = 6 → k < m → (∀ v', v' < v → isc t n i (kl v') = false) →
    OUT A3 (TC t n hd) 1 2 (P_X3_readKind_L2 m 1 (I v) h) h (kdS t n i) (fun h' => (kdS t n i).2 = i + 1 ∧ h'.2.1 1 4 = I (kdn (t i)) ∧ h'.2.1 1 6 = h.2.1 1 6 ∧ h'.2.1 3 = h.2.1 3) := by
  intro k
  induction k with
  | zero =>
    intro v m hv hm h0
    cases m with
    | zero => omega
    | succ m =>
      have e : v = 6 := by omega
      subst e
      have F := T.1
      have hk : ¬ (i < n ∧ kdn (t i) < 6) := fun ⟨z1, z2⟩ => by
        have := h0 _ z2
        rw [kl_kdn z2, isc_iff.mpr ⟨z1, rfl⟩] at this
        cases this
      unfold kdS
      rw [if_neg (by simpa using hk)]
      refine ⟨h, ?_, FxA.rf, T, ha, fun z => by cases z⟩
      unfold P_X3_readKind_L2
      simp (disch := first | assumption | exact FX_setI ‹_› | exact FX_setI (FX_setI ‹_›) | exact FX_setI (FX_setI (FX_setI ‹_›)) | exact FX_setI (FX_setI (FX_setI (FX_setI ‹_›))) | omega) only [gr_0_0, gr_0_1, gr_0_2, gr_0_3, gr_0_4, gr_0_5, gr_0_6, gr_0_7, gr_1_0, gr_1_5, gr_1_7, gr_5_3, gr_5_9, gr_8_3, gr_8_9, gr_11_3, gr_11_9, gr_14_0, gr_14_1, gr_14_2, gr_18_0, gr_18_1, gr_18_2, gr_24_0, gr_24_1, gr_24_2, gr_24_3, gr_24_5, gr_24_6, gr_24_10, gr_24_11, gr_24_12, gr_24_15, al_2, al_3, al_4, al_7, al_10, al_13, al_15, al_16, al_17, al_19, al_20, al_21, al_22, al_23, al_25, al_26, al_27, al_28, al_29, al_30, al_31, al_32, al_33, al_34, as_2, as_3, as_4, as_7, as_10, as_13, as_15, as_16, as_17, as_19, as_20, as_21, as_22, as_23, as_25, as_26, as_27, as_28, as_29, as_30, as_31, as_32, as_33, as_34, gi_0, gi_1, gi_5, gi_8, gi_11, gi_14, gi_18, gi_24, pi_0, pi_1, pi_5, pi_8, pi_11, pi_14, pi_18, pi_24, rc_0, rc_1, rc_5, rc_8, rc_11, rc_14, rc_18, rc_24, ln_2, ln_3, ln_4, ln_7, ln_10, ln_13, ln_15, ln_16, ln_17, ln_19, ln_20, ln_21, ln_22, ln_23, ln_25, ln_26, ln_27, ln_28, ln_29, ln_30, ln_31, ln_32, ln_33, ln_34, ln_6, ln_9, ln_12, ciN, cvN, lt_eq, nn_none, nn_some, setI_1, setI_at, setI_R, upd2_at, I_add, I_addn, Int32.neg_neg, I_mul, I_ltI, I_leI, I_eqI, I_nat, if_true, if_false, reduceIte, reduceIteN, I_difn, bz_0, bz_1, nz_I, I_rem, I_div, I_sub, l4095, l32, l63, l0, l1, l2, l3, l4, l5, l6, l7, l8, l9, l10, l11, l12, l16, l24, l28, l31, l40, l48, l57, l64, l68, l78, l79, l99, l255, l2000, l2187, l1000000000]
      rfl
  | succ k ih =>
    intro v m hv hm h0
    cases m with
    | zero => omega
    | succ m =>
      have F := T.1
      have hv6 : v < 6 := by omega
      cases hb : isc t n i (kl v)
      · have hno := c_takes_no hn ht T ha (by omega) (kl_lt v) rfl hb
        obtain ⟨h', r1, r2⟩ := ih (v + 1) m (by omega) (by omega) (fun v' hv' => by
          by_cases e : v' = v
          · rw [e]; exact hb
          · exact h0 v' (by omega))
        refine ⟨h', ?_, r2⟩
        unfold P_X3_readKind_L2
        simp (disch := first | assumption | exact FX_setI ‹_› | exact FX_setI (FX_setI ‹_›) | exact FX_setI (FX_setI (FX_setI ‹_›)) | exact FX_setI (FX_setI (FX_setI (FX_setI ‹_›))) | omega) only [gr_0_0, gr_0_1, gr_0_2, gr_0_3, gr_0_4, gr_0_5, gr_0_6, gr_0_7, gr_1_0, gr_1_5, gr_1_7, gr_5_3, gr_5_9, gr_8_3, gr_8_9, gr_11_3, gr_11_9, gr_14_0, gr_14_1, gr_14_2, gr_18_0, gr_18_1, gr_18_2, gr_24_0, gr_24_1, gr_24_2, gr_24_3, gr_24_5, gr_24_6, gr_24_10, gr_24_11, gr_24_12, gr_24_15, al_2, al_3, al_4, al_7, al_10, al_13, al_15, al_16, al_17, al_19, al_20, al_21, al_22, al_23, al_25, al_26, al_27, al_28, al_29, al_30, al_31, al_32, al_33, al_34, as_2, as_3, as_4, as_7, as_10, as_13, as_15, as_16, as_17, as_19, as_20, as_21, as_22, as_23, as_25, as_26, as_27, as_28, as_29, as_30, as_31, as_32, as_33, as_34, gi_0, gi_1, gi_5, gi_8, gi_11, gi_14, gi_18, gi_24, pi_0, pi_1, pi_5, pi_8, pi_11, pi_14, pi_18, pi_24, rc_0, rc_1, rc_5, rc_8, rc_11, rc_14, rc_18, rc_24, ln_2, ln_3, ln_4, ln_7, ln_10, ln_13, ln_15, ln_16, ln_17, ln_19, ln_20, ln_21, ln_22, ln_23, ln_25, ln_26, ln_27, ln_28, ln_29, ln_30, ln_31, ln_32, ln_33, ln_34, ln_6, ln_9, ln_12, ciN, cvN, lt_eq, nn_none, nn_some, setI_1, setI_at, setI_R, upd2_at, I_add, I_addn, Int32.neg_neg, I_mul, I_ltI, I_leI, I_eqI, I_nat, if_true, if_false, reduceIte, reduceIteN, I_difn, bz_0, bz_1, nz_I, I_rem, I_div, I_sub, l4095, l32, l63, l0, l1, l2, l3, l4, l5, l6, l7, l8, l9, l10, l11, l12, l16, l24, l28, l31, l40, l48, l57, l64, l68, l78, l79, l99, l255, l2000, l2187, l1000000000, kc_I hv6, hno]
        exact r1
      · obtain ⟨b1, b2⟩ := isc_iff.mp hb
        have hye := c_takes_yes hn ht T ha (by omega) (kl_lt v) rfl hb
        have hkd : kdn (t i) = v := by rw [b2]; exact kdn_kl hv6
        unfold kdS
        rw [if_pos (by rw [hkd]; simp [b1, hv6])]
        refine ⟨setI (setI h 1 2 (I (i + 1))) 1 4 (I v), ?_, (FxA.set (by decide)).tr (FxA.set (by decide)), TC_at (TC_at T (by decide)) (by decide), by rw [setI_at, if_neg (by decide), setI_at, if_pos ⟨rfl, rfl⟩], fun _ => ⟨rfl, ?_, ?_, ?_⟩⟩
        · unfold P_X3_readKind_L2
          simp (disch := first | assumption | exact FX_setI ‹_› | exact FX_setI (FX_setI ‹_›) | exact FX_setI (FX_setI (FX_setI ‹_›)) | exact FX_setI (FX_setI (FX_setI (FX_setI ‹_›))) | omega) only [gr_0_0, gr_0_1, gr_0_2, gr_0_3, gr_0_4, gr_0_5, gr_0_6, gr_0_7, gr_1_0, gr_1_5, gr_1_7, gr_5_3, gr_5_9, gr_8_3, gr_8_9, gr_11_3, gr_11_9, gr_14_0, gr_14_1, gr_14_2, gr_18_0, gr_18_1, gr_18_2, gr_24_0, gr_24_1, gr_24_2, gr_24_3, gr_24_5, gr_24_6, gr_24_10, gr_24_11, gr_24_12, gr_24_15, al_2, al_3, al_4, al_7, al_10, al_13, al_15, al_16, al_17, al_19, al_20, al_21, al_22, al_23, al_25, al_26, al_27, al_28, al_29, al_30, al_31, al_32, al_33, al_34, as_2, as_3, as_4, as_7, as_10, as_13, as_15, as_16, as_17, as_19, as_20, as_21, as_22, as_23, as_25, as_26, as_27, as_28, as_29, as_30, as_31, as_32, as_33, as_34, gi_0, gi_1, gi_5, gi_8, gi_11, gi_14, gi_18, gi_24, pi_0, pi_1, pi_5, pi_8, pi_11, pi_14, pi_18, pi_24, rc_0, rc_1, rc_5, rc_8, rc_11, rc_14, rc_18, rc_24, ln_2, ln_3, ln_4, ln_7, ln_10, ln_13, ln_15, ln_16, ln_17, ln_19, ln_20, ln_21, ln_22, ln_23, ln_25, ln_26, ln_27, ln_28, ln_29, ln_30, ln_31, ln_32, ln_33, ln_34, ln_6, ln_9, ln_12, ciN, cvN, lt_eq, nn_none, nn_some, setI_1, setI_at, setI_R, upd2_at, I_add, I_addn, Int32.neg_neg, I_mul, I_ltI, I_leI, I_eqI, I_nat, if_true, if_false, reduceIte, reduceIteN, I_difn, bz_0, bz_1, nz_I, I_rem, I_div, I_sub, l4095, l32, l63, l0, l1, l2, l3, l4, l5, l6, l7, l8, l9, l10, l11, l12, l16, l24, l28, l31, l40, l48, l57, l64, l68, l78, l79, l99, l255, l2000, l2187, l1000000000, kc_I hv6, hye]
          rfl
        · rw [setI_at, if_pos ⟨rfl, rfl⟩, hkd]
        · rw [setI_at, if_neg (by decide), setI_at, if_neg (by decide)]
        · rw [setI_ne (by decide), setI_ne (by decide)]
theorem c_kind {t : Nat → Nat} {n i : Nat} {hd : Int32} (hn : n ≤ 64) (ht : ∀ i, i < n → t i ≤ 255) {h : Hp} (T : TC t n hd h) (ha : h.2.1 1 2 = I i) (hi : i < 900) :
    OUT A3 (TC t n hd) 1 2 (P_X3_readKind 1 h) h (kdS t n i) (fun h' => (kdS t n i).2 = i + 1 ∧ h'.2.1 1 4 = I (kdn (t i)) ∧ h'.2.1 1 6 = h.2.1 1 6 ∧ h'.2.1 3 = h.2.1 3) := by
  unfold P_X3_readKind
  exact c_kind_L hn ht T ha hi 6 0 FU (by omega) (by have := FU_eq; omega) (fun v' h => by omega)
-- where the parts of a person's statement stand
def q2 (t : Nat → Nat) (n i : Nat) : Nat := i + 2 + dcn t n (i + 2) 2 + 1
def q3 (t : Nat → Nat) (n i : Nat) : Nat := q2 t n i + dcn t n (q2 t n i) 2 + 1
def qA (t : Nat → Nat) (n i : Nat) : Nat := dva t (i + 2) (dcn t n (i + 2) 2) 0
def qB (t : Nat → Nat) (n i : Nat) : Nat := dva t (q2 t n i) (dcn t n (q2 t n i) 2) 0
def qC (t : Nat → Nat) (n i : Nat) : Nat := dva t (q3 t n i) (dcn t n (q3 t n i) 1) 0
/-- what the class's reader knows of the statement it has read -/
def DTc (t : Nat → Nat) (n i : Nat) (h : Hp) : Prop :=
  (0 < hds (t i) → h.2.1 1 6 = I 1 ∧ h.2.1 3 0 = I (dva t (i + 1) (dcn t n (i + 1) (hds (t i))) 0) ∧ h.2.1 1 8 = I (dcn t n (i + 1) (hds (t i))) ∧ ∀ x, x < dcn t n (i + 1) (hds (t i)) → h.2.1 4 x = I (t (i + 1 + x) - 48))
  ∧ (t i = 112 → h.2.1 1 4 = I (kdn (t (i + 1))) ∧ h.2.1 1 6 = I 3 ∧ h.2.1 3 0 = I (qA t n i) ∧ h.2.1 3 1 = I (qB t n i) ∧ h.2.1 3 2 = I (qC t n i))
theorem hds_112 : hds 112 = 0 := rfl
theorem c_rsD {t : Nat → Nat} {n i mm : Nat} {hd x y : Int32} {h : Hp} (hn : n ≤ 64) (ht : ∀ i, i < n → t i ≤ 255) (T : TC t n hd h) (ha : h.2.1 1 2 = I (i + 1)) (hi : i < 800) (h6 : h.2.1 1 6 = I 0) (hmm : mm ≤ 12) (hx : x = I mm) (hy : y = I 59) (hm : hds (t i) = mm) (h0 : 0 < mm) :
    OUT A3 (TC t n hd) 1 2 (rc h 1 3 <| ci (P_X3_readDigits 1 x h) fun v5 h5 => if v5 = 0 then some (0, h5) else rc h5 1 3 <| ci (P_X3_takes 1 y h5) fun v h6 => if v = 0 then some (0, h6) else some (1, h6)) h (rsD t n mm (i + 1)) (DTc t n i) := by
  have hl := dcn_le t n mm (i + 1)
  rw [rc_1 T.1]
  refine OUT_bnd (c_digits hn ht T ha (by omega) (show 0 < 3 by decide) h6 hmm hx) (fun h1 a1 T1 b1 d1 => ?_)
  rw [rc_1 T1.1]
  refine OUT_last (c_takes hn ht T1 b1 (by show i + 1 + _ < 1000; omega) (show 59 < 256 by decide) hy) (fun h2 a2 T2 d2 => ?_)
  obtain ⟨d1, d2', d3, d4, d5, d6, d7⟩ := d1
  obtain ⟨-, e1, e2, e3⟩ := d2
  refine ⟨fun _ => ?_, fun z => ?_⟩
  · rw [hm, e1 6 (by decide), e1 8 (by decide), e2, e3]
    refine ⟨d1, d2', by rw [d5, Nat.zero_add], fun x hx => ?_⟩
    have := d7 x hx
    rw [Nat.zero_add] at this
    exact this
  · rw [z, hds_112] at hm
    omega
theorem c_rsP {t : Nat → Nat} {n i : Nat} {hd x1 x2 x3 x4 x5 x6 : Int32} {h : Hp} (hn : n ≤ 64) (ht : ∀ i, i < n → t i ≤ 255) (T : TC t n hd h) (ha : h.2.1 1 2 = I (i + 1)) (hi : i < 800) (h6 : h.2.1 1 6 = I 0) (hx1 : x1 = I 2) (hx2 : x2 = I 44) (hx3 : x3 = I 2) (hx4 : x4 = I 44) (hx5 : x5 = I 1) (hx6 : x6 = I 59) (hm : t i = 112) :
    OUT A3 (TC t n hd) 1 2 (rc h 1 3 <| ci (P_X3_readKind 1 h) fun v12 h14 => if v12 = 0 then some (0, h14) else
      rc h14 1 3 <| ci (P_X3_readDigits 1 x1 h14) fun v13 h15 => if v13 = 0 then some (0, h15) else
      rc h15 1 3 <| ci (P_X3_takes 1 x2 h15) fun v14 h16 => if v14 = 0 then some (0, h16) else
      rc h16 1 3 <| ci (P_X3_readDigits 1 x3 h16) fun v15 h17 => if v15 = 0 then some (0, h17) else
      rc h17 1 3 <| ci (P_X3_takes 1 x4 h17) fun v16 h18 => if v16 = 0 then some (0, h18) else
      rc h18 1 3 <| ci (P_X3_readDigits 1 x5 h18) fun v17 h19 => if v17 = 0 then some (0, h19) else
      rc h19 1 3 <| ci (P_X3_takes 1 x6 h19) fun v18 h20 => if v18 = 0 then some (0, h20) else some (1, h20)) h (rsP t n (i + 1)) (DTc t n i) := by
  have l1' := dcn_le t n 2 (i + 2)
  have l2' := dcn_le t n 2 (q2 t n i)
  have l3' := dcn_le t n 1 (q3 t n i)
  have u2 : q2 t n i < i + 6 := by unfold q2; omega
  have u3 : q3 t n i < i + 10 := by unfold q3; omega
  unfold rsP
  rw [rc_1 T.1]
  refine OUT_bnd (c_kind hn ht T ha (by omega)) (fun h1 a1 T1 b1 ⟨p1, k4, k6, k3⟩ => ?_)
  have p1' : (kdS t n (i + 1)).2 = i + 2 := p1
  rw [p1'] at b1 ⊢
  rw [rc_1 T1.1]
  refine OUT_bnd (c_digits (c := 0) hn ht T1 b1 (by omega) (by decide) (k6.trans h6) (by decide) hx1) (fun h2 a2 T2 b2 ⟨d1, d2, d3, d4, d5, d6, d7⟩ => ?_)
  rw [rc_1 T2.1]
  refine OUT_bnd (c_takes hn ht T2 b2 (by show i + 2 + dcn t n (i + 2) 2 < 1000; omega) (show 44 < 256 by decide) hx2) (fun h3 a3 T3 b3 ⟨p3, e1, e2, e3⟩ => ?_)
  have p3' : (tkS t n 44 (rdS t n 2 (i + 2)).2).2 = q2 t n i := p3
  rw [p3'] at b3 ⊢
  rw [rc_1 T3.1]
  refine OUT_bnd (c_digits (c := 1) hn ht T3 b3 (by omega) (by decide) ((e1 6 (by decide)).trans d1) (by decide) hx3) (fun h4 a4 T4 b4 ⟨f1, f2, f3, f4, f5, f6, f7⟩ => ?_)
  rw [rc_1 T4.1]
  refine OUT_bnd (c_takes hn ht T4 b4 (by show q2 t n i + dcn t n (q2 t n i) 2 < 1000; omega) (show 44 < 256 by decide) hx4) (fun h5 a5 T5 b5 ⟨p5, g1, g2, g3⟩ => ?_)
  have p5' : (tkS t n 44 (rdS t n 2 (q2 t n i)).2).2 = q3 t n i := p5
  rw [p5'] at b5 ⊢
  rw [rc_1 T5.1]
  refine OUT_bnd (c_digits (c := 2) hn ht T5 b5 (by omega) (by decide) ((g1 6 (by decide)).trans f1) (by decide) hx5) (fun h6 a6 T6 b6 ⟨j1, j2, j3, j4, j5, j6, j7⟩ => ?_)
  rw [rc_1 T6.1]
  refine OUT_last (c_takes hn ht T6 b6 (by show q3 t n i + dcn t n (q3 t n i) 1 < 1000; omega) (show 59 < 256 by decide) hx6) (fun h7 a7 T7 ⟨p7, o1, o2, o3⟩ => ?_)
  refine ⟨fun z => ?_, fun _ => ⟨?_, (o1 6 (by decide)).trans j1, ?_, ?_, ?_⟩⟩
  · rw [hm, hds_112] at z
    omega
  · rw [o1 4 (by decide), j4, g1 4 (by decide), f4, e1 4 (by decide), d4, k4]
  · rw [o2, j3 0 (by decide), g2, f3 0 (by decide), e2, d2]
    rfl
  · rw [o2, j3 1 (by decide), g2, f2]
    rfl
  · rw [o2, j2]
    rfl
