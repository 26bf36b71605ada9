/-! Copies -/
theorem I1 {i : Nat} : I i + 1 = I (i + 1) := I_add i 1
def mC (h : Hp) (b a i : Nat) : Hp := (h.1, fun p k => if p = b ∧ k < i then h.2.1 a k else h.2.1 p k, h.2.2)
def mR (h : Hp) (b a i : Nat) : Hp := (h.1, h.2.1, fun p k => if p = b ∧ k < i then h.2.2 a k else h.2.2 p k)
theorem mC_0 (h : Hp) (b a : Nat) : mC h b a 0 = h := by
  unfold mC
  simp
theorem mR_0 (h : Hp) (b a : Nat) : mR h b a 0 = h := by
  unfold mR
  simp
theorem mC_succ {h : Hp} {b a : Nat} (hne : a ≠ b) (i : Nat) : setI (mC h b a i) b i ((mC h b a i).2.1 a i) = mC h b a (i + 1) := by
  unfold mC setI
  simp only [hne, false_and, if_false]
  refine Prod.ext rfl (Prod.ext ?_ rfl)
  funext p k
  unfold upd2
  by_cases h1 : p = b
  · by_cases h2 : k = i
    · simp [h1, h2]
    · by_cases h3 : k < i
      · have : k < i + 1 := by omega
        simp [h1, h2, h3, this]
      · have : ¬ k < i + 1 := by omega
        simp [h1, h2, h3, this]
  · simp [h1]
theorem mR_succ {h : Hp} {b a : Nat} (hne : a ≠ b) (i : Nat) : ((mR h b a i).1, (mR h b a i).2.1, upd2 (mR h b a i).2.2 b i ((mR h b a i).2.2 a i)) = mR h b a (i + 1) := by
  unfold mR
  simp only [hne, false_and, if_false]
  refine Prod.ext rfl (Prod.ext rfl ?_)
  funext p k
  unfold upd2
  by_cases h1 : p = b
  · by_cases h2 : k = i
    · simp [h1, h2]
    · by_cases h3 : k < i
      · have : k < i + 1 := by omega
        simp [h1, h2, h3, this]
      · have : ¬ k < i + 1 := by omega
        simp [h1, h2, h3, this]
  · simp [h1]
theorem FX_mC {h : Hp} {b a i : Nat} (F : FX h) : FX (mC h b a i) := F
theorem FX_mR {h : Hp} {b a i : Nat} (hb : b = 6 ∨ b = 9 ∨ b = 12) (F : FX h) : FX (mR h b a i) := ⟨F.1, fun p k h1 h2 h3 h4 => by
  show (if p = b ∧ k < i then h.2.2 a k else h.2.2 p k) = RF p k
  rw [if_neg (by omega)]
  exact F.2 p k h1 h2 h3 h4⟩
theorem mC_at {h : Hp} {b a i q j : Nat} : (mC h b a i).2.1 q j = if q = b ∧ j < i then h.2.1 a j else h.2.1 q j := rfl
theorem mC_ne {h : Hp} {b a i q : Nat} (hq : q ≠ b) : (mC h b a i).2.1 q = h.2.1 q := by
  funext j
  rw [mC_at, if_neg (fun z => hq z.1)]
theorem setI_ne {h : Hp} {p k q : Nat} {v : Int32} (hq : q ≠ p) : (setI h p k v).2.1 q = h.2.1 q := by
  funext j
  rw [setI_at, if_neg (fun z => hq z.1)]
-- ===== the model's =====
theorem copies_ok {h : Hp} (F : FX h) {a b : Nat} (ha : a = 26 ∨ a = 27 ∨ a = 28) (hb : b = 26 ∨ b = 27 ∨ b = 28) (hne : a ≠ b) : P_X6_copies a b h = some (mC h b a 79) := by
  have key : ∀ (k i n : Nat), i + k = 79 → k < n → P_X6_copies_L2 n a b (I i) (mC h b a i) = some (mC h b a 79) := by
    have F' : ∀ i, FX (mC h b a i) := fun i => FX_mC F
    have sa : (SH a).1 = 7 ∧ (SH a).2 = 79 := by rcases ha with rfl | rfl | rfl <;> exact ⟨rfl, rfl⟩
    have sb : (SH b).1 = 7 ∧ (SH b).2 = 79 := by rcases hb with rfl | rfl | rfl <;> exact ⟨rfl, rfl⟩
    intro k
    induction k with
    | zero =>
      intro i n hi hn
      cases n with
      | zero => omega
      | succ n =>
        have : i = 79 := by omega
        rw [this]
        unfold P_X6_copies_L2
        simp (disch := first | assumption | exact FX_setI ‹_› | exact FX_setI (FX_setI ‹_›) | exact FX_setI (FX_setI (FX_setI ‹_›)) | exact FX_setI (FX_setI (FX_setI (FX_setI ‹_›))) | omega) only [gr_0_0, gr_0_1, gr_0_2, gr_0_3, gr_0_4, gr_0_5, gr_0_6, gr_0_7, gr_1_0, gr_1_5, gr_1_7, gr_5_3, gr_5_9, gr_8_3, gr_8_9, gr_11_3, gr_11_9, gr_14_0, gr_14_1, gr_14_2, gr_18_0, gr_18_1, gr_18_2, gr_24_0, gr_24_1, gr_24_2, gr_24_3, gr_24_5, gr_24_6, gr_24_10, gr_24_11, gr_24_12, gr_24_15, al_2, al_3, al_4, al_7, al_10, al_13, al_15, al_16, al_17, al_19, al_20, al_21, al_22, al_23, al_25, al_26, al_27, al_28, al_29, al_30, al_31, al_32, al_33, al_34, as_2, as_3, as_4, as_7, as_10, as_13, as_15, as_16, as_17, as_19, as_20, as_21, as_22, as_23, as_25, as_26, as_27, as_28, as_29, as_30, as_31, as_32, as_33, as_34, gi_0, gi_1, gi_5, gi_8, gi_11, gi_14, gi_18, gi_24, pi_0, pi_1, pi_5, pi_8, pi_11, pi_14, pi_18, pi_24, rc_0, rc_1, rc_5, rc_8, rc_11, rc_14, rc_18, rc_24, ln_2, ln_3, ln_4, ln_7, ln_10, ln_13, ln_15, ln_16, ln_17, ln_19, ln_20, ln_21, ln_22, ln_23, ln_25, ln_26, ln_27, ln_28, ln_29, ln_30, ln_31, ln_32, ln_33, ln_34, ln_6, ln_9, ln_12, ci_some, cv_some, lt_eq, nn_none, nn_some, setI_1, setI_at, setI_R, upd2_at, I_add, I_addn, Int32.neg_neg, I_mul, I_ltI, I_leI, I_eqI, I_nat, if_true, if_false, reduceIte, reduceIteN, I_difn, bz_0, bz_1, nz_I, I_rem, I_div, I_sub, l4095, l32, l63, l0, l1, l2, l3, l4, l5, l6, l7, l8, l9, l10, l11, l12, l16, l24, l28, l31, l40, l48, l57, l64, l68, l78, l79, l99, l255, l2000, l2187, l1000000000]
    | succ k ih =>
      intro i n hi hn
      cases n with
      | zero => omega
      | succ n =>
        have h11 := ih (i + 1) n (by omega) (by omega)
        unfold P_X6_copies_L2
        rw [if_neg (show ¬ 79 ≤ I i by show ¬ I 79 ≤ I i; rw [I_leI (by decide) (by omega)]; omega), al_eq (F' i) (by omega) sa.1 sa.2 (by decide) (show i < 79 by omega), as_eq (F' i) (by omega) sb.1 sb.2 (by decide) (show i < 79 by omega), mC_succ hne, lt_eq, I1]
        exact h11
  have h1 := key 79 0 FU (by omega) (by have := FU_eq; omega)
  rw [mC_0] at h1
  unfold P_X6_copies
  exact h1
-- ===== the class's =====
def Cc (c : Nat) : Prop := c < 30 ∧ (c ≠ 6 ∧ c ≠ 9 ∧ c ≠ 12) ∧ (SH c).1 = 0 ∧ RF c 3 = some (c + 1) ∧ RF c 9 = some (c + 2) ∧ (SH (c + 1)).1 = 8 ∧ (SH (c + 1)).2 = 7 ∧ (SH (c + 2)).1 = 7 ∧ (SH (c + 2)).2 = 10 ∧ (c + 1 = 6 ∨ c + 1 = 9 ∨ c + 1 = 12) ∧ (c + 2 ≠ 6 ∧ c + 2 ≠ 9 ∧ c + 2 ≠ 12)
theorem Cc_5 : Cc 5 := ⟨by decide, by decide, rfl, rfl, rfl, rfl, rfl, rfl, rfl, by decide, by decide⟩
theorem Cc_8 : Cc 8 := ⟨by decide, by decide, rfl, rfl, rfl, rfl, rfl, rfl, rfl, by decide, by decide⟩
theorem Cc_11 : Cc 11 := ⟨by decide, by decide, rfl, rfl, rfl, rfl, rfl, rfl, rfl, by decide, by decide⟩
theorem rs_eq {α : Type} {h : Hp} {p i : Nat} {o : Option Nat} {f : Hp → Option α} (F : FX h) (hp : p = 6 ∨ p = 9 ∨ p = 12) (hi : i < 7) (ho : ∀ v, o = some v → v < h.1 ∧ (SH v).1 = 2) : rs h p (I i) o f = f (h.1, h.2.1, upd2 h.2.2 p i o) := by
  unfold rs
  have h1 := F.1
  have hi2 : i < 2147483648 := by omega
  rcases hp with rfl | rfl | rfl
  all_goals rw [I_nat hi2, if_pos ⟨by omega, rfl, ⟨I_pos hi2, by show i < 7; exact hi⟩, ho⟩]
theorem become_L26 {h : Hp} (F : FX h) {c c2 : Nat} (hc : Cc c) (hc2 : Cc c2) (hne : c2 ≠ c) (hg : ∀ p q, p < 7 → h.2.2 (c2 + 1) p = some q → q < h.1 ∧ (SH q).1 = 2) (kont : Hp → Option Hp) : ∀ (k i n : Nat), i + k = 7 → k < n →
    P_X0_become_L26 n c c2 (I i) (mR h (c + 1) (c2 + 1) i) kont = kont (mR h (c + 1) (c2 + 1) 7) := by
  obtain ⟨a1, a2, a3, a4, a5, a6, a7, a8, a9, a10, a11⟩ := hc
  obtain ⟨b1, b2, b3, b4, b5, b6, b7, b8, b9, b10, b11⟩ := hc2
  have F' : ∀ i, FX (mR h (c + 1) (c2 + 1) i) := fun i => FX_mR a10 F
  intro k
  induction k with
  | zero =>
    intro i n hi hn
    cases n with
    | zero => omega
    | succ n =>
      have : i = 7 := by omega
      rw [this]
      unfold P_X0_become_L26
      rw [gr_eq (F' 7) (by omega) a2 a3 a4, ln_eq (F' 7) (by omega) (Or.inr a6) a7, if_pos (Int32.le_refl _)]
  | succ k ih =>
    intro i n hi hn
    cases n with
    | zero => omega
    | succ n =>
      have h11 := ih (i + 1) n (by omega) (by omega)
      have hle : ¬ I 7 ≤ I i := by rw [I_leI (by decide) (by omega)]; omega
      have hrd : (mR h (c + 1) (c2 + 1) i).2.2 (c2 + 1) i = h.2.2 (c2 + 1) i := by
        show (if c2 + 1 = c + 1 ∧ i < i then _ else _) = _
        rw [if_neg (by omega)]
      unfold P_X0_become_L26
      rw [gr_eq (F' i) (by omega) a2 a3 a4, ln_eq (F' i) (by omega) (Or.inr a6) a7, if_neg hle, gr_eq (F' i) (by omega) b2 b3 b4, ln_eq (F' i) (by omega) (Or.inr b6) b7, if_neg hle, gr_eq (F' i) (by omega) a2 a3 a4, gr_eq (F' i) (by omega) b2 b3 b4, rl_eq (F' i) b10 (by omega),
        rs_eq (F' i) a10 (by omega) (fun v hv => by rw [hrd] at hv; exact hg i v (by omega) hv), mR_succ (by omega), lt_eq, I1]
      exact h11
theorem become_L104 {h : Hp} (F : FX h) {c c2 : Nat} (hc : Cc c) (hc2 : Cc c2) (hne : c2 ≠ c) : ∀ (k i n : Nat), i + k = 10 → k < n →
    P_X0_become_L104 n c c2 (I i) (mC h (c + 2) (c2 + 2) i) = some (setI (mC h (c + 2) (c2 + 2) 10) c 10 ((mC h (c + 2) (c2 + 2) 10).2.1 c2 10)) := by
  obtain ⟨a1, a2, a3, a4, a5, a6, a7, a8, a9, a10, a11⟩ := hc
  obtain ⟨b1, b2, b3, b4, b5, b6, b7, b8, b9, b10, b11⟩ := hc2
  have F' : ∀ i, FX (mC h (c + 2) (c2 + 2) i) := fun i => FX_mC F
  intro k
  induction k with
  | zero =>
    intro i n hi hn
    cases n with
    | zero => omega
    | succ n =>
      have : i = 10 := by omega
      rw [this]
      unfold P_X0_become_L104
      rw [gr_eq (F' 10) (by omega) a2 a3 a5, ln_eq (F' 10) (by omega) (Or.inl a8) a9, if_pos (Int32.le_refl _), gi_eq (F' 10) (by omega) b3, pi_eq (F' 10) (by omega) a3]
  | succ k ih =>
    intro i n hi hn
    cases n with
    | zero => omega
    | succ n =>
      have h11 := ih (i + 1) n (by omega) (by omega)
      have hle : ¬ I 10 ≤ I i := by rw [I_leI (by decide) (by omega)]; omega
      unfold P_X0_become_L104
      rw [gr_eq (F' i) (by omega) a2 a3 a5, ln_eq (F' i) (by omega) (Or.inl a8) a9, if_neg hle, gr_eq (F' i) (by omega) b2 b3 b5, ln_eq (F' i) (by omega) (Or.inl b8) b9, if_neg hle, gr_eq (F' i) (by omega) a2 a3 a5, gr_eq (F' i) (by omega) b2 b3 b5,
        al_eq (F' i) (by omega) b8 b9 (by decide) (show i < 10 by omega), as_eq (F' i) (by omega) a8 a9 (by decide) (show i < 10 by omega), mC_succ (by omega), lt_eq, I1]
      exact h11
/-- the same corridor, told in another heap -/
theorem CO_ag {h h1 : Hp} {c : Nat} {σ : Nat → Nat} (e0 : h.1 ≤ h1.1) (e1 : ∀ j, h1.2.1 c j = h.2.1 c j) (e2 : ∀ j, h1.2.1 (c + 2) j = h.2.1 (c + 2) j) (e3 : ∀ j, h1.2.2 (c + 1) j = h.2.2 (c + 1) j) (e4 : ∀ q, 35 ≤ q → q < h.1 → h1.2.1 q = h.2.1 q) (C : CO h c σ) : CO h1 c σ := by
  obtain ⟨k, hl, hg, hr⟩ := C
  refine ⟨by rw [e1, e1, e1, e1, e1, e1, e1, e1, e1]; exact k, fun i hi => by rw [e2]; exact hl i hi, fun p hp => ?_, fun p q hp hq => ?_⟩
  · obtain ⟨q, hq, g1, g2, g3, g4⟩ := hg p hp
    refine ⟨q, by rw [e3]; exact hq, ?_⟩
    unfold GO
    rw [e4 q g3 g1]
    exact ⟨by omega, g2, g3, g4⟩
  · rw [e3] at hq
    have := hr p q hp hq
    exact ⟨by omega, this.2⟩
theorem become_ok {h : Hp} (F : FX h) {c c2 : Nat} (hc : Cc c) (hc2 : Cc c2) (hne : c2 ≠ c) (hd : c2 + 2 ≠ c ∧ c + 2 ≠ c2) {σ : Nat → Nat} (W : WF σ) (C : CO h c2 σ) : ∃ h1, P_X0_become c c2 h = some h1 ∧ h1.1 = h.1 ∧ FX h1 ∧ (∀ p k, p ≠ c + 1 → h1.2.2 p k = h.2.2 p k) ∧ (∀ q, q ≠ c → q ≠ c + 2 → h1.2.1 q = h.2.1 q) ∧ CO h1 c σ := by
  have hg := C.2.2.2
  obtain ⟨a1, a2, a3, a4, a5, a6, a7, a8, a9, a10, a11⟩ := id hc
  obtain ⟨b1, b2, b3, b4, b5, b6, b7, b8, b9, b10, b11⟩ := id hc2
  let h3 : Hp := setI (setI (setI h c 0 (h.2.1 c2 0)) c 1 (h.2.1 c2 1)) c 2 (h.2.1 c2 2)
  have F3 : FX h3 := F
  have z3 : h3 = setI (setI (setI h c 0 (h.2.1 c2 0)) c 1 (h.2.1 c2 1)) c 2 (h.2.1 c2 2) := rfl
  have R3 := fun kont => become_L26 F3 hc hc2 hne hg kont 7 0 FU (by omega) (by have := FU_eq; omega)
  rw [mR_0] at R3
  let h6 : Hp := mR h3 (c + 1) (c2 + 1) 7
  have F6 : FX h6 := FX_mR a10 F3
  have z6 : h6 = mR h3 (c + 1) (c2 + 1) 7 := rfl
  let h11 : Hp := setI (setI (setI (setI (setI h6 c 4 (h6.2.1 c2 4)) c 5 (h6.2.1 c2 5)) c 6 (h6.2.1 c2 6)) c 7 (h6.2.1 c2 7)) c 8 (h6.2.1 c2 8)
  have F11 : FX h11 := F6
  have z11 : h11 = setI (setI (setI (setI (setI h6 c 4 (h6.2.1 c2 4)) c 5 (h6.2.1 c2 5)) c 6 (h6.2.1 c2 6)) c 7 (h6.2.1 c2 7)) c 8 (h6.2.1 c2 8) := rfl
  have R11 := become_L104 F11 hc hc2 hne 10 0 FU (by omega) (by have := FU_eq; omega)
  rw [mC_0] at R11
  have e3 : ∀ q, q ≠ c → h3.2.1 q = h.2.1 q := fun q hq => by rw [z3, setI_ne hq, setI_ne hq, setI_ne hq]
  have e6 : ∀ q, h6.2.1 q = h3.2.1 q := fun q => rfl
  have e11 : ∀ q, q ≠ c → h11.2.1 q = h6.2.1 q := fun q hq => by rw [z11, setI_ne hq, setI_ne hq, setI_ne hq, setI_ne hq, setI_ne hq]
  have eq2 : ∀ j, h11.2.1 c2 j = h.2.1 c2 j := fun j => by rw [e11 c2 hne, e6, e3 c2 hne]
  refine ⟨setI (mC h11 (c + 2) (c2 + 2) 10) c 10 ((mC h11 (c + 2) (c2 + 2) 10).2.1 c2 10), ?_, ?_, ?_, ?_, ?_, ?_⟩
  · unfold P_X0_become
    have n1 : ∀ (x : Hp) (k j : Nat) (v : Int32), (setI x c k v).2.1 c2 j = x.2.1 c2 j := fun x k j v => by rw [setI_ne hne]
    have g1 : ∀ {α : Type} {x : Hp} {k : Nat} {f : Int32 → Option α}, FX x → gi x c2 0 k f = f (x.2.1 c2 k) := fun X => gi_eq X (by omega) b3
    have p1 : ∀ {α : Type} {x : Hp} {k : Nat} {v : Int32} {f : Hp → Option α}, FX x → pi x c 0 k v f = f (setI x c k v) := fun X => pi_eq X (by omega) a3
    rw [g1 F, p1 F, g1 (FX_setI F), p1 (FX_setI F), g1 (FX_setI (FX_setI F)), p1 (FX_setI (FX_setI F)), n1, n1, n1, ← z3]
    show P_X0_become_L26 FU c c2 (I 0) h3 _ = _
    rw [R3, ← z6, g1 F6, p1 F6, g1 (FX_setI F6), p1 (FX_setI F6), g1 (FX_setI (FX_setI F6)), p1 (FX_setI (FX_setI F6)), g1 (FX_setI (FX_setI (FX_setI F6))), p1 (FX_setI (FX_setI (FX_setI F6))), g1 (FX_setI (FX_setI (FX_setI (FX_setI F6)))), p1 (FX_setI (FX_setI (FX_setI (FX_setI F6))))]
    simp only [n1]
    show P_X0_become_L104 FU c c2 (I 0) h11 = _
    exact R11
  · rfl
  · exact F11
  · intro p k hp
    show (if p = c + 1 ∧ k < 7 then h.2.2 (c2 + 1) k else h.2.2 p k) = _
    rw [if_neg (fun z => hp z.1)]
  · intro q h1 h2
    rw [setI_ne h1, mC_ne h2, e11 q h1, e6, e3 q h1]
  · have q6 : ∀ j, h6.2.1 c2 j = h.2.1 c2 j := fun j => by rw [e6, e3 c2 hne]
    have vc : ∀ j, j ≤ 2 ∨ (4 ≤ j ∧ j ≤ 8) ∨ j = 10 → (setI (mC h11 (c + 2) (c2 + 2) 10) c 10 ((mC h11 (c + 2) (c2 + 2) 10).2.1 c2 10)).2.1 c j = h.2.1 c2 j := by
      intro j hj
      rw [setI_at]
      by_cases h10 : j = 10
      · rw [if_pos ⟨rfl, h10⟩, mC_ne (by omega), eq2, h10]
      · rw [if_neg (fun z => h10 z.2), mC_ne (by omega), z11, setI_at, setI_at, setI_at, setI_at, setI_at, q6, q6, q6, q6, q6, e6, z3, setI_at, setI_at, setI_at]
        by_cases h8 : j = 8
        · rw [if_pos ⟨rfl, h8⟩, h8]
        rw [if_neg (fun z => h8 z.2)]
        by_cases h7 : j = 7
        · rw [if_pos ⟨rfl, h7⟩, h7]
        rw [if_neg (fun z => h7 z.2)]
        by_cases h6' : j = 6
        · rw [if_pos ⟨rfl, h6'⟩, h6']
        rw [if_neg (fun z => h6' z.2)]
        by_cases h5 : j = 5
        · rw [if_pos ⟨rfl, h5⟩, h5]
        rw [if_neg (fun z => h5 z.2)]
        by_cases h4 : j = 4
        · rw [if_pos ⟨rfl, h4⟩, h4]
        rw [if_neg (fun z => h4 z.2)]
        by_cases h2 : j = 2
        · rw [if_pos ⟨rfl, h2⟩, h2]
        rw [if_neg (fun z => h2 z.2)]
        by_cases h1 : j = 1
        · rw [if_pos ⟨rfl, h1⟩, h1]
        rw [if_neg (fun z => h1 z.2)]
        have h0 : j = 0 := by omega
        rw [if_pos ⟨rfl, h0⟩, h0]
    have hr' : ∀ p, p < 7 → (setI (mC h11 (c + 2) (c2 + 2) 10) c 10 ((mC h11 (c + 2) (c2 + 2) 10).2.1 c2 10)).2.2 (c + 1) p = h.2.2 (c2 + 1) p := by
      intro p hp
      show (if c + 1 = c + 1 ∧ p < 7 then h.2.2 (c2 + 1) p else h.2.2 (c + 1) p) = _
      rw [if_pos ⟨rfl, hp⟩]
    have hq35 : ∀ q, 35 ≤ q → (setI (mC h11 (c + 2) (c2 + 2) 10) c 10 ((mC h11 (c + 2) (c2 + 2) 10).2.1 c2 10)).2.1 q = h.2.1 q := by
      intro q hq
      rw [setI_ne (by omega), mC_ne (by omega), e11 q (by omega), e6, e3 q (by omega)]
    obtain ⟨k, hl, hg2, hr⟩ := C
    have h7 := W.2.2.1
    have h10 := W.2.2.2.1
    refine ⟨?_, fun i hi => ?_, fun p hp => ?_, fun p q hp hq => ?_⟩
    · rw [vc 0 (by omega), vc 1 (by omega), vc 2 (by omega), vc 4 (by omega), vc 5 (by omega), vc 6 (by omega), vc 7 (by omega), vc 8 (by omega), vc 10 (by omega)]
      exact k
    · rw [setI_ne (by omega), mC_at, if_pos ⟨rfl, by omega⟩, e11 _ hd.1, e6, e3 _ hd.1]
      exact hl i hi
    · obtain ⟨q, hq, g1, g2, g3, g4⟩ := hg2 p hp
      refine ⟨q, by rw [hr' p (by omega)]; exact hq, ?_⟩
      unfold GO
      rw [hq35 q g3]
      exact ⟨g1, g2, g3, g4⟩
    · rw [hr' p hp] at hq
      exact hr p q hp hq
