def psd (dg : Nat → Nat) (x : Nat) : Nat → Nat := fun i => if i < x then dg i else 0
theorem c_oStand_L {h : Hp} {σ dg : Nat → Nat} (F : FX h) (W : WF σ) (C : CO h 8 σ) (h8 : h.2.1 1 8 = I (σ 0)) (hd : ∀ x, x < σ 0 → h.2.1 4 x = I (dg x)) (hdg : ∀ x, x < σ 0 → dg x ≤ 9) : ∀ (k x m : Nat), x + k = σ 0 → k < m → (∀ y, y < x → fh σ dg y = true) →
    OB σ (P_X0_obeysStand_L17 m 8 1 (I (enc (psd dg x))) (I (x + 1)) h) h (if alr (fh σ dg) (σ 0) = true then some (rowset σ 4 dg (σ 0)) else none) := by
  have hcol := W.col
  have hw := W.1
  obtain ⟨⟨k0, k1, k2, k4, k5, k6, k7, k8, k10⟩, -⟩ := id C
  intro k
  induction k with
  | zero =>
    intro x m hx hm hy
    cases m with
    | zero => omega
    | succ m =>
      have e : x = σ 0 := by omega
      subst e
      rw [if_pos ((alr_iff _).mpr hy)]
      have A : FxA [8] h (setI h 8 7 (I (enc (psd dg (σ 0))))) := FxA.set (by simp)
      have eq : ∀ i, i < 12 → rowset σ 4 dg (σ 0) (4 + i) = psd dg (σ 0) i := fun i hi => by
        unfold rowset psd
        by_cases c : i < σ 0
        · rw [if_pos (by omega), if_pos c, Nat.add_sub_cancel_left]
        · rw [if_neg (by omega), if_neg c]
          exact (W.2.2.2.2.2.2.2.2.2 i (by omega) hi).1
      have o : ∀ j, j < 4 ∨ 16 ≤ j → rowset σ 4 dg (σ 0) j = σ j := fun j hj => by unfold rowset; rw [if_neg (by omega)]
      refine OB_yes (FO.fxa F A) (CO_8 A C (fun j hj => o j (by omega)) ?_ ?_ ?_ ?_ ?_ ?_ ?_ ?_ ?_) ?_
      · rw [setI_at, if_neg (by decide), o 0 (by omega)]; exact k0
      · rw [setI_at, if_neg (by decide), o 1 (by omega)]; exact k1
      · rw [setI_at, if_neg (by decide)]; exact k2
      · rw [setI_at, if_neg (by decide), k4]
        refine congrArg I ?_
        exact msk_congr (fun i hi => by rw [o _ (by omega)])
      · rw [setI_at, if_neg (by decide), k5]
        refine congrArg I ?_
        exact msk_congr (fun i hi => by
          by_cases h : i < 12
          · rw [if_pos h, if_pos h, o _ (by omega)]
          · rw [if_neg h, if_neg h, o _ (by omega)])
      · rw [setI_at, if_neg (by decide), k6]
        refine congrArg I ?_
        exact enc_congr (fun i hi => (o _ (by omega)).symm)
      · rw [setI_at, if_pos ⟨rfl, rfl⟩]
        refine congrArg I ?_
        exact enc_congr (fun i hi => (eq i hi).symm)
      · rw [setI_at, if_neg (by decide)]; exact k8
      · rw [setI_at, if_neg (by decide)]; exact k10
      · unfold P_X0_obeysStand_L17
        simp (disch := first | assumption | exact FX_setI ‹_› | exact FX_setI (FX_setI ‹_›) | exact FX_setI (FX_setI (FX_setI ‹_›)) | exact FX_setI (FX_setI (FX_setI (FX_setI ‹_›))) | omega) only [gr_0_0, gr_0_1, gr_0_2, gr_0_3, gr_0_4, gr_0_5, gr_0_6, gr_0_7, gr_1_0, gr_1_5, gr_1_7, gr_5_3, gr_5_9, gr_8_3, gr_8_9, gr_11_3, gr_11_9, gr_14_0, gr_14_1, gr_14_2, gr_18_0, gr_18_1, gr_18_2, gr_24_0, gr_24_1, gr_24_2, gr_24_3, gr_24_5, gr_24_6, gr_24_10, gr_24_11, gr_24_12, gr_24_15, al_2, al_3, al_4, al_7, al_10, al_13, al_15, al_16, al_17, al_19, al_20, al_21, al_22, al_23, al_25, al_26, al_27, al_28, al_29, al_30, al_31, al_32, al_33, al_34, as_2, as_3, as_4, as_7, as_10, as_13, as_15, as_16, as_17, as_19, as_20, as_21, as_22, as_23, as_25, as_26, as_27, as_28, as_29, as_30, as_31, as_32, as_33, as_34, gi_0, gi_1, gi_5, gi_8, gi_11, gi_14, gi_18, gi_24, pi_0, pi_1, pi_5, pi_8, pi_11, pi_14, pi_18, pi_24, rc_0, rc_1, rc_5, rc_8, rc_11, rc_14, rc_18, rc_24, ln_2, ln_3, ln_4, ln_7, ln_10, ln_13, ln_15, ln_16, ln_17, ln_19, ln_20, ln_21, ln_22, ln_23, ln_25, ln_26, ln_27, ln_28, ln_29, ln_30, ln_31, ln_32, ln_33, ln_34, ln_6, ln_9, ln_12, ciN, cvN, lt_eq, nn_none, nn_some, setI_1, setI_at, setI_R, upd2_at, I_add, I_addn, Int32.neg_neg, I_mul, I_ltI, I_leI, I_eqI, I_nat, if_true, if_false, reduceIte, reduceIteN, I_difn, bz_0, bz_1, nz_I, I_rem, I_div, I_sub, l4095, l32, l63, l0, l1, l2, l3, l4, l5, l6, l7, l8, l9, l10, l11, l12, l16, l24, l28, l31, l40, l48, l57, l64, l68, l78, l79, l99, l255, l2000, l2187, l1000000000, k0]
  | succ k ih =>
    intro x m hx hm hy
    cases m with
    | zero => omega
    | succ m =>
      have hxn : x < σ 0 := by omega
      have hdi := c_digit F h8 hxn (by omega)
      rw [hd x hxn] at hdi
      have h9' := hdg x hxn
      by_cases hlt : dg x < σ 1
      · obtain ⟨h', r1, r2⟩ := ih (x + 1) m (by omega) (by omega) (fun y hy' => by
          by_cases e : y = x
          · rw [e]; unfold fh; simp [hlt]
          · exact hy y (by omega))
        refine ⟨h', ?_, r2⟩
        have en := enc_bt (f := psd dg x) (g := psd dg (x + 1)) (x := x) (w := dg x) (by omega) (by omega)
          (by unfold psd; rw [if_neg (by omega)]; decide) (by unfold psd; rw [if_pos (by omega)])
          (fun i hi hne => by
            unfold psd
            by_cases c : i < x
            · rw [if_pos c, if_pos (by omega)]
            · rw [if_neg c, if_neg (by omega)])
        rw [en] at r1
        have b3 := c_bitAt (h := h) (d := x + 1) (w := dg x) (by omega) (by omega) (by omega)
        rw [Nat.add_sub_cancel] at b3
        have b3' : P_X5_bitAt (I (x + 1)) (I (dg x)) h = some (I (bt x (dg x)), h) := b3
        unfold P_X0_obeysStand_L17
        simp (disch := first | assumption | exact FX_setI ‹_› | exact FX_setI (FX_setI ‹_›) | exact FX_setI (FX_setI (FX_setI ‹_›)) | exact FX_setI (FX_setI (FX_setI (FX_setI ‹_›))) | omega) only [gr_0_0, gr_0_1, gr_0_2, gr_0_3, gr_0_4, gr_0_5, gr_0_6, gr_0_7, gr_1_0, gr_1_5, gr_1_7, gr_5_3, gr_5_9, gr_8_3, gr_8_9, gr_11_3, gr_11_9, gr_14_0, gr_14_1, gr_14_2, gr_18_0, gr_18_1, gr_18_2, gr_24_0, gr_24_1, gr_24_2, gr_24_3, gr_24_5, gr_24_6, gr_24_10, gr_24_11, gr_24_12, gr_24_15, al_2, al_3, al_4, al_7, al_10, al_13, al_15, al_16, al_17, al_19, al_20, al_21, al_22, al_23, al_25, al_26, al_27, al_28, al_29, al_30, al_31, al_32, al_33, al_34, as_2, as_3, as_4, as_7, as_10, as_13, as_15, as_16, as_17, as_19, as_20, as_21, as_22, as_23, as_25, as_26, as_27, as_28, as_29, as_30, as_31, as_32, as_33, as_34, gi_0, gi_1, gi_5, gi_8, gi_11, gi_14, gi_18, gi_24, pi_0, pi_1, pi_5, pi_8, pi_11, pi_14, pi_18, pi_24, rc_0, rc_1, rc_5, rc_8, rc_11, rc_14, rc_18, rc_24, ln_2, ln_3, ln_4, ln_7, ln_10, ln_13, ln_15, ln_16, ln_17, ln_19, ln_20, ln_21, ln_22, ln_23, ln_25, ln_26, ln_27, ln_28, ln_29, ln_30, ln_31, ln_32, ln_33, ln_34, ln_6, ln_9, ln_12, ciN, cvN, lt_eq, nn_none, nn_some, setI_1, setI_at, setI_R, upd2_at, I_add, I_addn, Int32.neg_neg, I_mul, I_ltI, I_leI, I_eqI, I_nat, if_true, if_false, reduceIte, reduceIteN, I_difn, bz_0, bz_1, nz_I, I_rem, I_div, I_sub, l4095, l32, l63, l0, l1, l2, l3, l4, l5, l6, l7, l8, l9, l10, l11, l12, l16, l24, l28, l31, l40, l48, l57, l64, l68, l78, l79, l99, l255, l2000, l2187, l1000000000, k0, k1, hdi, Nat.add_sub_cancel, b3', I_or]
        exact r1
      · rw [if_neg (by rw [alr_no hxn (by unfold fh; simp [hlt])]; decide)]
        refine OB_no F ?_
        unfold P_X0_obeysStand_L17
        simp (disch := first | assumption | exact FX_setI ‹_› | exact FX_setI (FX_setI ‹_›) | exact FX_setI (FX_setI (FX_setI ‹_›)) | exact FX_setI (FX_setI (FX_setI (FX_setI ‹_›))) | omega) only [gr_0_0, gr_0_1, gr_0_2, gr_0_3, gr_0_4, gr_0_5, gr_0_6, gr_0_7, gr_1_0, gr_1_5, gr_1_7, gr_5_3, gr_5_9, gr_8_3, gr_8_9, gr_11_3, gr_11_9, gr_14_0, gr_14_1, gr_14_2, gr_18_0, gr_18_1, gr_18_2, gr_24_0, gr_24_1, gr_24_2, gr_24_3, gr_24_5, gr_24_6, gr_24_10, gr_24_11, gr_24_12, gr_24_15, al_2, al_3, al_4, al_7, al_10, al_13, al_15, al_16, al_17, al_19, al_20, al_21, al_22, al_23, al_25, al_26, al_27, al_28, al_29, al_30, al_31, al_32, al_33, al_34, as_2, as_3, as_4, as_7, as_10, as_13, as_15, as_16, as_17, as_19, as_20, as_21, as_22, as_23, as_25, as_26, as_27, as_28, as_29, as_30, as_31, as_32, as_33, as_34, gi_0, gi_1, gi_5, gi_8, gi_11, gi_14, gi_18, gi_24, pi_0, pi_1, pi_5, pi_8, pi_11, pi_14, pi_18, pi_24, rc_0, rc_1, rc_5, rc_8, rc_11, rc_14, rc_18, rc_24, ln_2, ln_3, ln_4, ln_7, ln_10, ln_13, ln_15, ln_16, ln_17, ln_19, ln_20, ln_21, ln_22, ln_23, ln_25, ln_26, ln_27, ln_28, ln_29, ln_30, ln_31, ln_32, ln_33, ln_34, ln_6, ln_9, ln_12, ciN, cvN, lt_eq, nn_none, nn_some, setI_1, setI_at, setI_R, upd2_at, I_add, I_addn, Int32.neg_neg, I_mul, I_ltI, I_leI, I_eqI, I_nat, if_true, if_false, reduceIte, reduceIteN, I_difn, bz_0, bz_1, nz_I, I_rem, I_div, I_sub, l4095, l32, l63, l0, l1, l2, l3, l4, l5, l6, l7, l8, l9, l10, l11, l12, l16, l24, l28, l31, l40, l48, l57, l64, l68, l78, l79, l99, l255, l2000, l2187, l1000000000, k0, k1, hdi, Nat.add_sub_cancel, hlt]
theorem c_oStand {h : Hp} {σ dg : Nat → Nat} (F : FX h) (W : WF σ) (C : CO h 8 σ) {c : Nat} (hc : c < 100) (h8 : h.2.1 1 8 = I c) (hd : ∀ x, x < c → h.2.1 4 x = I (dg x)) (hdg : ∀ x, x < c → dg x ≤ 9) : OB σ (P_X0_obeysStand 8 1 h) h (if c = σ 0 ∧ alr (fh σ dg) (σ 0) = true then some (rowset σ 4 dg (σ 0)) else none) := by
  have hw := W.1
  have k0 := C.1.1
  unfold P_X0_obeysStand
  by_cases e : c = σ 0
  · subst e
    have h1 := c_oStand_L F W C h8 hd hdg (σ 0) 0 FU (by omega) (by have := FU_eq; omega) (fun y hy => by omega)
    have z2 : enc (psd dg 0) = 0 := enc_00 (fun i hi => by
      unfold psd
      rw [if_neg (by omega)]
      decide)
    rw [z2] at h1
    simp only [true_and]
    rw [gi_1 F, gi_8 F, h8, k0, if_pos rfl]
    exact h1
  · rw [if_neg (fun z => e z.1)]
    refine OB_no F ?_
    rw [gi_1 F, gi_8 F, h8, k0, if_neg (by rw [I_eqI (by omega) (by omega)]; exact e)]
    rfl
-- ===== somebody more =====
theorem SH_ge {p : Nat} (h : 35 ≤ p) : (SH p).1 = 2 := by
  obtain ⟨k, rfl⟩ : ∃ k, p = k + 35 := ⟨p - 35, by omega⟩
  rfl
def nwH (h : Hp) : Hp := (h.1 + 1, (fun q j => if q = h.1 then 0 else h.2.1 q j), (fun q j => if q = h.1 then none else h.2.2 q j))
theorem nw_eq {α : Type} {h : Hp} {f : Nat → Hp → Option α} (F : FX h) : nw h 2 f = f h.1 (nwH h) := by
  unfold nw
  rw [if_pos (SH_ge F.1)]
  rfl
theorem FX_nw {h : Hp} (F : FX h) : FX (nwH h) := ⟨Nat.le_succ_of_le F.1, fun p k h1 h2 h3 h4 => by
  have := F.1
  show (if p = h.1 then none else h.2.2 p k) = RF p k
  rw [if_neg (by omega)]
  exact F.2 p k h1 h2 h3 h4⟩
theorem pi_q {α : Type} {h : Hp} {q k : Nat} {v : Int32} {f : Hp → Option α} (h1 : q < h.1) (h2 : (SH q).1 = 2) : pi h q 2 k v f = f (setI h q k v) := by
  unfold pi
  rw [if_pos ⟨h1, h2⟩]
  rfl
theorem c_init {h : Hp} {q : Nat} {a b c d : Int32} (h1 : q < h.1) (h2 : (SH q).1 = 2) : P_X2_init q a b c d h = some (setI (setI (setI (setI h q 0 a) q 1 b) q 2 c) q 3 d) := by
  unfold P_X2_init
  rw [pi_q h1 h2, pi_q (h := setI h q 0 a) h1 h2, pi_q (h := setI (setI h q 0 a) q 1 b) h1 h2, pi_q (h := setI (setI (setI h q 0 a) q 1 b) q 2 c) h1 h2]
theorem c_goerNo {h : Hp} {a : Nat} (ha : a < 1000) : P_X0_isGoerNumber (I a) h = some (if 1 ≤ a ∧ a ≤ 12 then I 1 else I 0, h) := by
  unfold P_X0_isGoerNumber
  rw [show (1 : Int32) = I 1 from rfl, show (12 : Int32) = I 12 from rfl]
  by_cases h1 : 1 ≤ a
  · rw [if_neg (by rw [I_ltI (by omega) (by decide)]; omega)]
    by_cases h2 : a ≤ 12
    · rw [if_neg (by rw [I_ltI (by decide) (by omega)]; omega), if_pos ⟨h1, h2⟩]
    · rw [if_pos (by rw [I_ltI (by decide) (by omega)]; omega), if_neg (fun z => h2 z.2)]
      rfl
  · rw [if_pos (by rw [I_ltI (by omega) (by decide)]; omega), if_neg (fun z => h1 z.1)]
    rfl
/-- the heap with one goer more, who stands in the trial's row -/
def moreH (h : Hp) (p kd A B c : Nat) : Hp :=
  setI ((setI (setI (setI (setI (nwH h) h.1 0 (I kd)) h.1 1 (I A)) h.1 2 (I B)) h.1 3 (I c)).1, (setI (setI (setI (setI (nwH h) h.1 0 (I kd)) h.1 1 (I A)) h.1 2 (I B)) h.1 3 (I c)).2.1, upd2 (nwH h).2.2 9 p (some h.1)) 8 2 (I (p + 1))
theorem more_o {h : Hp} {p kd A B c q : Nat} (hq : q < h.1) (h8 : q ≠ 8) : (moreH h p kd A B c).2.1 q = h.2.1 q := by
  unfold moreH
  rw [setI_ne h8]
  show (setI (setI (setI (setI (nwH h) h.1 0 (I kd)) h.1 1 (I A)) h.1 2 (I B)) h.1 3 (I c)).2.1 q = h.2.1 q
  rw [setI_ne (by omega), setI_ne (by omega), setI_ne (by omega), setI_ne (by omega)]
  funext j
  show (if q = h.1 then 0 else h.2.1 q j) = h.2.1 q j
  rw [if_neg (by omega)]
theorem more_r {h : Hp} {p kd A B c q j : Nat} (hq : q < h.1) : (moreH h p kd A B c).2.2 q j = if q = 9 ∧ j = p then some h.1 else h.2.2 q j := by
  show upd2 (nwH h).2.2 9 p (some h.1) q j = _
  unfold upd2
  by_cases e : q = 9 ∧ j = p
  · rw [if_pos e, if_pos e]
  · rw [if_neg e, if_neg e]
    show (if q = h.1 then none else h.2.2 q j) = _
    rw [if_neg (by omega)]
theorem FO_more {h : Hp} {p kd A B c : Nat} (F : FX h) : FO h (moreH h p kd A B c) := by
  have h35 := F.1
  refine ⟨Nat.le_succ _, ⟨Nat.le_succ_of_le F.1, fun q k h1 h2 h3 h4 => ?_⟩, fun q h1 h2 => more_o h1 h2, fun q h1 h2 => ?_⟩
  · rw [more_r (by omega), if_neg (fun z => h3 z.1)]
    exact F.2 q k h1 h2 h3 h4
  · funext j
    rw [more_r (by omega), if_neg (fun z => h2 z.1)]
theorem CO_more {h : Hp} {σ : Nat → Nat} {kd A B c : Nat} (F : FX h) (W : WF σ) (h7 : σ 2 < 7) (C : CO h 8 σ) : CO (moreH h (σ 2) kd A B c) 8 (prs σ kd A B c) := by
  have h35 := F.1
  obtain ⟨⟨k0, k1, k2, k4, k5, k6, k7, k8, k10⟩, hl, hg, hr⟩ := id C
  have f8 : ∀ j, j ≠ 2 → (moreH h (σ 2) kd A B c).2.1 8 j = h.2.1 8 j := fun j hj => by
    unfold moreH
    rw [setI_at, if_neg (fun z => hj z.2)]
    show (setI (setI (setI (setI (nwH h) h.1 0 (I kd)) h.1 1 (I A)) h.1 2 (I B)) h.1 3 (I c)).2.1 8 j = h.2.1 8 j
    rw [setI_ne (by omega), setI_ne (by omega), setI_ne (by omega), setI_ne (by omega)]
    show (if 8 = h.1 then 0 else h.2.1 8 j) = h.2.1 8 j
    rw [if_neg (by omega)]
  have f82 : (moreH h (σ 2) kd A B c).2.1 8 2 = I (σ 2 + 1) := by
    unfold moreH
    rw [setI_at, if_pos ⟨rfl, rfl⟩]
  have lo : ∀ j, j ≠ 2 → (j < 40 ∨ 68 ≤ j) → prs σ kd A B c j = σ j := fun j h0 hj => by
    unfold prs
    rw [if_neg h0, if_neg (by omega), if_neg (by omega), if_neg (by omega), if_neg (by omega)]
  have p2 : prs σ kd A B c 2 = σ 2 + 1 := if_pos rfl
  refine ⟨⟨?_, ?_, ?_, ?_, ?_, ?_, ?_, ?_, ?_⟩, fun i hi => ?_, fun p hp => ?_, fun p q hp hq => ?_⟩
  · rw [f8 0 (by decide), lo 0 (by decide) (by omega)]; exact k0
  · rw [f8 1 (by decide), lo 1 (by decide) (by omega)]; exact k1
  · rw [f82, p2]
  · rw [f8 4 (by decide), k4]
    refine congrArg I ?_
    exact msk_congr (fun i hi => by rw [lo _ (by omega) (by omega)])
  · rw [f8 5 (by decide), k5]
    refine congrArg I ?_
    exact msk_congr (fun i hi => by
      by_cases h : i < 12
      · rw [if_pos h, if_pos h, lo _ (by omega) (by omega)]
      · rw [if_neg h, if_neg h, lo _ (by omega) (by omega)])
  · rw [f8 6 (by decide), k6]
    refine congrArg I ?_
    exact enc_congr (fun i hi => (lo _ (by omega) (by omega)).symm)
  · rw [f8 7 (by decide), k7]
    refine congrArg I ?_
    exact enc_congr (fun i hi => (lo _ (by omega) (by omega)).symm)
  · rw [f8 8 (by decide), lo 78 (by decide) (by omega)]; exact k8
  · rw [f8 10 (by decide), lo 3 (by decide) (by omega)]; exact k10
  · rw [lo 3 (by decide) (by omega)] at hi
    have h10 := W.2.2.2.1
    rw [more_o (by omega) (by decide), lo _ (by omega) (by omega)]
    exact hl i hi
  · rw [p2] at hp
    by_cases e : p = σ 2
    · subst e
      refine ⟨h.1, by rw [more_r (by omega), if_pos ⟨rfl, rfl⟩], Nat.lt_succ_self _, SH_ge h35, h35, ?_, ?_, ?_, ?_⟩
      · have a0 : prs σ kd A B c (40 + 4 * σ 2) = kd := by unfold prs; rw [if_neg (by omega), if_pos rfl]
        rw [a0]
        unfold moreH
        rw [setI_ne (by omega)]
        show (setI (setI (setI (setI (nwH h) h.1 0 (I kd)) h.1 1 (I A)) h.1 2 (I B)) h.1 3 (I c)).2.1 h.1 0 = _
        rw [setI_at, if_neg (by omega), setI_at, if_neg (by omega), setI_at, if_neg (by omega), setI_at, if_pos ⟨rfl, rfl⟩]
      · have a1 : prs σ kd A B c (41 + 4 * σ 2) = A := by unfold prs; rw [if_neg (by omega), if_neg (by omega), if_pos rfl]
        rw [a1]
        unfold moreH
        rw [setI_ne (by omega)]
        show (setI (setI (setI (setI (nwH h) h.1 0 (I kd)) h.1 1 (I A)) h.1 2 (I B)) h.1 3 (I c)).2.1 h.1 1 = _
        rw [setI_at, if_neg (by omega), setI_at, if_neg (by omega), setI_at, if_pos ⟨rfl, rfl⟩]
      · have a2 : prs σ kd A B c (42 + 4 * σ 2) = B := by unfold prs; rw [if_neg (by omega), if_neg (by omega), if_neg (by omega), if_pos rfl]
        rw [a2]
        unfold moreH
        rw [setI_ne (by omega)]
        show (setI (setI (setI (setI (nwH h) h.1 0 (I kd)) h.1 1 (I A)) h.1 2 (I B)) h.1 3 (I c)).2.1 h.1 2 = _
        rw [setI_at, if_neg (by omega), setI_at, if_pos ⟨rfl, rfl⟩]
      · have a3 : prs σ kd A B c (43 + 4 * σ 2) = c := by unfold prs; rw [if_neg (by omega), if_neg (by omega), if_neg (by omega), if_neg (by omega), if_pos rfl]
        rw [a3]
        unfold moreH
        rw [setI_ne (by omega)]
        show (setI (setI (setI (setI (nwH h) h.1 0 (I kd)) h.1 1 (I A)) h.1 2 (I B)) h.1 3 (I c)).2.1 h.1 3 = _
        rw [setI_at, if_pos ⟨rfl, rfl⟩]
    · have hp' : p < σ 2 := by omega
      have q : ∀ k, 40 ≤ k → k < 44 → prs σ kd A B c (k + 4 * p) = σ (k + 4 * p) := fun k a b => by
        unfold prs
        rw [if_neg (by omega), if_neg (by omega), if_neg (by omega), if_neg (by omega), if_neg (by omega)]
      obtain ⟨g, hgq, g1, g2, g3, g4⟩ := hg p hp'
      refine ⟨g, by rw [more_r (by omega), if_neg (by omega)]; exact hgq, ?_⟩
      unfold GO
      rw [more_o g1 (by omega), q 40 (by omega) (by omega), q 41 (by omega) (by omega), q 42 (by omega) (by omega), q 43 (by omega) (by omega)]
      exact ⟨Nat.lt_succ_of_lt g1, g2, g3, g4⟩
  · rw [more_r (by omega)] at hq
    by_cases e : 8 + 1 = 9 ∧ p = σ 2
    · rw [if_pos e] at hq
      injection hq with hq
      rw [← hq]
      exact ⟨Nat.lt_succ_self _, SH_ge h35⟩
    · rw [if_neg e] at hq
      have := hr p q hp hq
      exact ⟨Nat.lt_succ_of_lt this.1, this.2⟩
theorem c_oPerson {h : Hp} {σ : Nat → Nat} (F : FX h) (W : WF σ) (C : CO h 8 σ) {kd A B c : Nat} (h4 : h.2.1 1 4 = I kd) (h6 : h.2.1 1 6 = I 3) (hA : h.2.1 3 0 = I A) (hB : h.2.1 3 1 = I B) (hc : h.2.1 3 2 = I c) (lA : A < 100) (lB : B < 100) :
    OB σ (P_X0_obeysPerson 8 1 h) h (if (1 ≤ A ∧ A ≤ 12) ∧ (1 ≤ B ∧ B ≤ 12) ∧ σ 2 < 7 then some (prs σ kd A B c) else none) := by
  have h35 := F.1
  have w7 := W.2.2.1
  obtain ⟨⟨k0, k1, k2, k4, k5, k6, k7, k8, k10⟩, -⟩ := id C
  have n0 := c_number F h6 (show 0 < 3 by decide) (by decide)
  have n1' := c_number F h6 (show 1 < 3 by decide) (by decide)
  have gA := c_goerNo (h := h) (a := A) (by omega)
  have gB := c_goerNo (h := h) (a := B) (by omega)
  rw [hA] at n0
  rw [hB] at n1'
  unfold P_X0_obeysPerson
  by_cases cA : 1 ≤ A ∧ A ≤ 12
  · rw [if_pos cA] at gA
    by_cases cB : 1 ≤ B ∧ B ≤ 12
    · rw [if_pos cB] at gB
      by_cases c7 : σ 2 < 7
      · rw [if_pos ⟨cA, cB, c7⟩]
        refine OB_yes (FO_more F) (CO_more F W c7 C) ?_
        have F5 := FX_nw F
        have e14 : (nwH h).2.1 1 4 = I kd := by
          show (if 1 = h.1 then 0 else h.2.1 1 4) = _
          rw [if_neg (by omega)]; exact h4
        have e16 : (nwH h).2.1 1 6 = I 3 := by
          show (if 1 = h.1 then 0 else h.2.1 1 6) = _
          rw [if_neg (by omega)]; exact h6
        have e32 : (nwH h).2.1 3 2 = I c := by
          show (if 3 = h.1 then 0 else h.2.1 3 2) = _
          rw [if_neg (by omega)]; exact hc
        have n2' := c_number F5 e16 (show 2 < 3 by decide) (by decide)
        rw [e32] at n2'
        have hi := c_init (h := nwH h) (q := h.1) (a := I kd) (b := I A) (c := I B) (d := I c) (Nat.lt_succ_self _) (SH_ge h35)
        let h7 : Hp := setI (setI (setI (setI (nwH h) h.1 0 (I kd)) h.1 1 (I A)) h.1 2 (I B)) h.1 3 (I c)
        have z7 : setI (setI (setI (setI (nwH h) h.1 0 (I kd)) h.1 1 (I A)) h.1 2 (I B)) h.1 3 (I c) = h7 := rfl
        have F7 : FX h7 := F5
        rw [z7] at hi
        let h8 : Hp := (h7.1, h7.2.1, upd2 h7.2.2 9 (σ 2) (some h.1))
        have F8 : FX h8 := ⟨F5.1, fun p k h1 h2 h3 h4 => by
          show upd2 (nwH h).2.2 9 (σ 2) (some h.1) p k = _
          unfold upd2
          rw [if_neg (fun z => h3 z.1)]
          exact F5.2 p k h1 h2 h3 h4⟩
        have hrs : ∀ {α : Type} {f : Hp → Option α}, rs h7 9 (I (σ 2)) (some h.1) f = f h8 := rs_eq F7 (by decide) c7 (fun v hv => by injection hv with hv; rw [← hv]; exact ⟨Nat.lt_succ_self _, SH_ge h35⟩)
        have e82 : h8.2.1 8 2 = I (σ 2) := by
          show h7.2.1 8 2 = _
          rw [← z7, setI_ne (by omega), setI_ne (by omega), setI_ne (by omega), setI_ne (by omega)]
          show (if 8 = h.1 then 0 else h.2.1 8 2) = _
          rw [if_neg (by omega)]; exact k2
        rw [show (0 : Int32) = I 0 from rfl, show (1 : Int32) = I 1 from rfl, show (2 : Int32) = I 2 from rfl]
        rw [rc_1 F, n0, ci_some, lt_eq, rc_1 F, n1', ci_some, lt_eq, gA, ci_some, if_neg (show ¬ I 1 = I 0 by decide), gB, ci_some, if_neg (show ¬ I 1 = I 0 by decide), gi_8 F, k2, if_neg (by rw [I_ltI (by omega) (by decide)]; omega), gi_8 F, k2, gr_8_3 F, ln_9 F, if_pos (by rw [I_ltI (by omega) (by decide)]; exact c7), gr_8_3 F, gi_8 F, k2, nw_eq F, gi_1 F5, e14, rc_1 F5, n2', ci_some, hi, cv_some, hrs, gi_8 F8, e82, I_add, pi_8 F8]
        rfl
      · rw [if_neg (fun z => c7 z.2.2)]
        refine OB_no F ?_
        have e7 : σ 2 = 7 := by omega
        rw [e7] at k2
        simp (disch := first | assumption | exact FX_setI ‹_› | exact FX_setI (FX_setI ‹_›) | exact FX_setI (FX_setI (FX_setI ‹_›)) | exact FX_setI (FX_setI (FX_setI (FX_setI ‹_›))) | omega) only [gr_0_0, gr_0_1, gr_0_2, gr_0_3, gr_0_4, gr_0_5, gr_0_6, gr_0_7, gr_1_0, gr_1_5, gr_1_7, gr_5_3, gr_5_9, gr_8_3, gr_8_9, gr_11_3, gr_11_9, gr_14_0, gr_14_1, gr_14_2, gr_18_0, gr_18_1, gr_18_2, gr_24_0, gr_24_1, gr_24_2, gr_24_3, gr_24_5, gr_24_6, gr_24_10, gr_24_11, gr_24_12, gr_24_15, al_2, al_3, al_4, al_7, al_10, al_13, al_15, al_16, al_17, al_19, al_20, al_21, al_22, al_23, al_25, al_26, al_27, al_28, al_29, al_30, al_31, al_32, al_33, al_34, as_2, as_3, as_4, as_7, as_10, as_13, as_15, as_16, as_17, as_19, as_20, as_21, as_22, as_23, as_25, as_26, as_27, as_28, as_29, as_30, as_31, as_32, as_33, as_34, gi_0, gi_1, gi_5, gi_8, gi_11, gi_14, gi_18, gi_24, pi_0, pi_1, pi_5, pi_8, pi_11, pi_14, pi_18, pi_24, rc_0, rc_1, rc_5, rc_8, rc_11, rc_14, rc_18, rc_24, ln_2, ln_3, ln_4, ln_7, ln_10, ln_13, ln_15, ln_16, ln_17, ln_19, ln_20, ln_21, ln_22, ln_23, ln_25, ln_26, ln_27, ln_28, ln_29, ln_30, ln_31, ln_32, ln_33, ln_34, ln_6, ln_9, ln_12, ciN, cvN, lt_eq, nn_none, nn_some, setI_1, setI_at, setI_R, upd2_at, I_add, I_addn, Int32.neg_neg, I_mul, I_ltI, I_leI, I_eqI, I_nat, if_true, if_false, reduceIte, reduceIteN, I_difn, bz_0, bz_1, nz_I, I_rem, I_div, I_sub, l4095, l32, l63, l0, l1, l2, l3, l4, l5, l6, l7, l8, l9, l10, l11, l12, l16, l24, l28, l31, l40, l48, l57, l64, l68, l78, l79, l99, l255, l2000, l2187, l1000000000, n0, n1', gA, gB, k2]
    · rw [if_neg cB] at gB
      rw [if_neg (fun z => cB z.2.1)]
      refine OB_no F ?_
      simp (disch := first | assumption | exact FX_setI ‹_› | exact FX_setI (FX_setI ‹_›) | exact FX_setI (FX_setI (FX_setI ‹_›)) | exact FX_setI (FX_setI (FX_setI (FX_setI ‹_›))) | omega) only [gr_0_0, gr_0_1, gr_0_2, gr_0_3, gr_0_4, gr_0_5, gr_0_6, gr_0_7, gr_1_0, gr_1_5, gr_1_7, gr_5_3, gr_5_9, gr_8_3, gr_8_9, gr_11_3, gr_11_9, gr_14_0, gr_14_1, gr_14_2, gr_18_0, gr_18_1, gr_18_2, gr_24_0, gr_24_1, gr_24_2, gr_24_3, gr_24_5, gr_24_6, gr_24_10, gr_24_11, gr_24_12, gr_24_15, al_2, al_3, al_4, al_7, al_10, al_13, al_15, al_16, al_17, al_19, al_20, al_21, al_22, al_23, al_25, al_26, al_27, al_28, al_29, al_30, al_31, al_32, al_33, al_34, as_2, as_3, as_4, as_7, as_10, as_13, as_15, as_16, as_17, as_19, as_20, as_21, as_22, as_23, as_25, as_26, as_27, as_28, as_29, as_30, as_31, as_32, as_33, as_34, gi_0, gi_1, gi_5, gi_8, gi_11, gi_14, gi_18, gi_24, pi_0, pi_1, pi_5, pi_8, pi_11, pi_14, pi_18, pi_24, rc_0, rc_1, rc_5, rc_8, rc_11, rc_14, rc_18, rc_24, ln_2, ln_3, ln_4, ln_7, ln_10, ln_13, ln_15, ln_16, ln_17, ln_19, ln_20, ln_21, ln_22, ln_23, ln_25, ln_26, ln_27, ln_28, ln_29, ln_30, ln_31, ln_32, ln_33, ln_34, ln_6, ln_9, ln_12, ciN, cvN, lt_eq, nn_none, nn_some, setI_1, setI_at, setI_R, upd2_at, I_add, I_addn, Int32.neg_neg, I_mul, I_ltI, I_leI, I_eqI, I_nat, if_true, if_false, reduceIte, reduceIteN, I_difn, bz_0, bz_1, nz_I, I_rem, I_div, I_sub, l4095, l32, l63, l0, l1, l2, l3, l4, l5, l6, l7, l8, l9, l10, l11, l12, l16, l24, l28, l31, l40, l48, l57, l64, l68, l78, l79, l99, l255, l2000, l2187, l1000000000, n0, n1', gA, gB]
  · rw [if_neg cA] at gA
    rw [if_neg (fun z => cA z.1)]
    refine OB_no F ?_
    simp (disch := first | assumption | exact FX_setI ‹_› | exact FX_setI (FX_setI ‹_›) | exact FX_setI (FX_setI (FX_setI ‹_›)) | exact FX_setI (FX_setI (FX_setI (FX_setI ‹_›))) | omega) only [gr_0_0, gr_0_1, gr_0_2, gr_0_3, gr_0_4, gr_0_5, gr_0_6, gr_0_7, gr_1_0, gr_1_5, gr_1_7, gr_5_3, gr_5_9, gr_8_3, gr_8_9, gr_11_3, gr_11_9, gr_14_0, gr_14_1, gr_14_2, gr_18_0, gr_18_1, gr_18_2, gr_24_0, gr_24_1, gr_24_2, gr_24_3, gr_24_5, gr_24_6, gr_24_10, gr_24_11, gr_24_12, gr_24_15, al_2, al_3, al_4, al_7, al_10, al_13, al_15, al_16, al_17, al_19, al_20, al_21, al_22, al_23, al_25, al_26, al_27, al_28, al_29, al_30, al_31, al_32, al_33, al_34, as_2, as_3, as_4, as_7, as_10, as_13, as_15, as_16, as_17, as_19, as_20, as_21, as_22, as_23, as_25, as_26, as_27, as_28, as_29, as_30, as_31, as_32, as_33, as_34, gi_0, gi_1, gi_5, gi_8, gi_11, gi_14, gi_18, gi_24, pi_0, pi_1, pi_5, pi_8, pi_11, pi_14, pi_18, pi_24, rc_0, rc_1, rc_5, rc_8, rc_11, rc_14, rc_18, rc_24, ln_2, ln_3, ln_4, ln_7, ln_10, ln_13, ln_15, ln_16, ln_17, ln_19, ln_20, ln_21, ln_22, ln_23, ln_25, ln_26, ln_27, ln_28, ln_29, ln_30, ln_31, ln_32, ln_33, ln_34, ln_6, ln_9, ln_12, ciN, cvN, lt_eq, nn_none, nn_some, setI_1, setI_at, setI_R, upd2_at, I_add, I_addn, Int32.neg_neg, I_mul, I_ltI, I_leI, I_eqI, I_nat, if_true, if_false, reduceIte, reduceIteN, I_difn, bz_0, bz_1, nz_I, I_rem, I_div, I_sub, l4095, l32, l63, l0, l1, l2, l3, l4, l5, l6, l7, l8, l9, l10, l11, l12, l16, l24, l28, l31, l40, l48, l57, l64, l68, l78, l79, l99, l255, l2000, l2187, l1000000000, n0, n1', gA]
/-- an order read by the class -/
theorem c_obeys {t : Nat → Nat} {n i : Nat} {h : Hp} {σ : Nat → Nat} (W : WF σ) (C : CO h 8 σ) (F : FX h) (h3 : h.2.1 1 3 = I (t i)) (hb : t i ≤ 255) (D : DTc t n i h) (hok : 0 < hds (t i) ∨ t i = 112) : OB σ (P_X0_obeys 8 1 h) h (obd t n i σ) := by
  obtain ⟨D1, D2⟩ := D
  have q : ∀ (c : Nat), c < 256 → (I (t i) = I c) = (t i = c) := fun c hc => I_eqI (by omega) (by omega)
  have lt : ∀ {x : Option (Nat → Nat)} {P : Option (Int32 × Hp)}, OB σ P h x → OB σ (ci P fun v h' => bz v <| some (v, h')) h x := by
    intro x P ⟨h', e1, e2, e3⟩
    refine ⟨h', ?_, e2, e3⟩
    rw [e1, ci_some]
    cases x
    · exact bz_0
    · exact bz_1
  unfold P_X0_obeys obd
  rw [gi_1 F, h3, show (104 : Int32) = I 104 from rfl, show (107 : Int32) = I 107 from rfl, show (110 : Int32) = I 110 from rfl, show (112 : Int32) = I 112 from rfl, show (115 : Int32) = I 115 from rfl, show (119 : Int32) = I 119 from rfl]
  by_cases e1 : t i = 104
  · rw [if_pos (by rw [e1]), if_neg (by omega), if_neg (by omega), if_neg (by omega), if_neg (by omega), if_neg (by omega), rc_8 F]
    have hh : hds (t i) = 12 := by rw [e1]; rfl
    obtain ⟨d1, d2, d3, d4⟩ := D1 (by rw [hh]; decide)
    have hl := dcn_le t n (hds (t i)) (i + 1)
    exact lt (c_oStand (c := ok1 t n i) (dg := od t i) F W C (by unfold ok1; omega) d3 d4 (fun x hx => by
      have := dcn_dg _ _ x hx
      unfold od
      omega))
  rw [if_neg (by rw [q 104 (by decide)]; exact e1)]
  by_cases e2 : t i = 107
  · rw [if_pos (by rw [e2]), if_neg (by omega), if_pos e2, rc_1 F]
    have hh : hds (t i) = 1 := by rw [e2]; rfl
    obtain ⟨d1, d2, d3, d4⟩ := D1 (by rw [hh]; decide)
    have hn := c_number F d1 (show 0 < 1 by decide) (by decide)
    rw [show (0 : Int32) = I 0 from rfl, hn, ci_some, rc_8 F, d2]
    exact lt (c_oColours F C (oa_lt (by omega)))
  rw [if_neg (by rw [q 107 (by decide)]; exact e2)]
  by_cases e3 : t i = 110
  · rw [if_pos (by rw [e3]), if_pos e3, rc_1 F]
    have hh : hds (t i) = 2 := by rw [e3]; rfl
    obtain ⟨d1, d2, d3, d4⟩ := D1 (by rw [hh]; decide)
    have hn := c_number F d1 (show 0 < 1 by decide) (by decide)
    rw [show (0 : Int32) = I 0 from rfl, hn, ci_some, rc_8 F, d2]
    exact lt (c_oDoors F C (oa_lt (by omega)))
  rw [if_neg (by rw [q 110 (by decide)]; exact e3)]
  by_cases e4 : t i = 112
  · rw [if_pos (by rw [e4]), if_neg e3, if_neg e2, if_pos e4, rc_8 F]
    obtain ⟨d1, d2, d3, d4, d5⟩ := D2 e4
    exact lt (c_oPerson F W C d1 d2 d3 d4 d5 (qA_lt t n i) (qB_lt t n i))
  rw [if_neg (by rw [q 112 (by decide)]; exact e4)]
  by_cases e5 : t i = 115
  · rw [if_pos (by rw [e5]), if_neg e3, if_neg e2, if_neg e4, if_pos e5, rc_1 F]
    have hh : hds (t i) = 2 := by rw [e5]; rfl
    obtain ⟨d1, d2, d3, d4⟩ := D1 (by rw [hh]; decide)
    have hn := c_number F d1 (show 0 < 1 by decide) (by decide)
    rw [show (0 : Int32) = I 0 from rfl, hn, ci_some, rc_8 F, d2]
    exact lt (c_oStuck F W C (oa_lt (by omega)))
  rw [if_neg (by rw [q 115 (by decide)]; exact e5)]
  have e6 : t i = 119 := by
    rcases hok with hok | hok
    · unfold hds at hok
      by_cases c1 : t i = 110 ∨ t i = 115
      · omega
      · rw [if_neg c1, if_neg e2] at hok
        by_cases c2 : t i = 119 ∨ t i = 104
        · omega
        · rw [if_neg c2] at hok; omega
    · exact absurd hok e4
  rw [if_pos (by rw [e6]), if_neg e3, if_neg e2, if_neg e4, if_neg e5, if_pos e6, rc_8 F]
  have hh : hds (t i) = 12 := by rw [e6]; rfl
  obtain ⟨d1, d2, d3, d4⟩ := D1 (by rw [hh]; decide)
  have hl := dcn_le t n (hds (t i)) (i + 1)
  exact lt (c_oWish (c := ok1 t n i) (dg := od t i) F W C (by unfold ok1; omega) d3 d4 (fun x hx => by
    have := dcn_dg _ _ x hx
    unfold od
    omega))
