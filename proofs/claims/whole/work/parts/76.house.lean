theorem bnd_le {x : Bool × Nat} {f : Nat → Bool × Nat} {a b : Nat} (h1 : x.2 ≤ a) (h2 : ∀ j, j ≤ a → (f j).2 ≤ b) (hab : a ≤ b) : (bnd x f).2 ≤ b := by
  unfold bnd
  by_cases h : x.1 = true
  · rw [if_pos h]; exact h2 _ h1
  · rw [if_neg h]; omega
theorem tk_le (t : Nat → Nat) (n c i : Nat) : (tkS t n c i).2 ≤ i + 1 := by
  unfold tkS
  split
  · exact Nat.le_refl _
  · exact Nat.le_succ _
theorem kd_le (t : Nat → Nat) (n i : Nat) : (kdS t n i).2 ≤ i + 1 := by
  unfold kdS
  split
  · exact Nat.le_refl _
  · exact Nat.le_succ _
theorem rd_le (t : Nat → Nat) (n m i : Nat) : (rdS t n m i).2 ≤ i + m := by
  show i + dcn t n i m ≤ i + m
  have := dcn_le t n m i
  omega
theorem rs_le (t : Nat → Nat) (n i : Nat) : (rsS t n i).2 ≤ i + 14 := by
  unfold rsS
  by_cases h1 : i < n ∧ t i = 112
  · rw [if_pos h1]
    unfold rsP
    refine bnd_le (kd_le t n (i + 1)) (fun j1 g1 => ?_) (by omega)
    refine bnd_le (rd_le t n 2 j1) (fun j2 g2 => ?_) (by omega)
    refine bnd_le (tk_le t n 44 j2) (fun j3 g3 => ?_) (by omega)
    refine bnd_le (rd_le t n 2 j3) (fun j4 g4 => ?_) (by omega)
    refine bnd_le (tk_le t n 44 j4) (fun j5 g5 => ?_) (by omega)
    refine bnd_le (rd_le t n 1 j5) (fun j6 g6 => ?_) (by omega)
    have := tk_le t n 59 j6
    omega
  · rw [if_neg h1]
    by_cases h2 : i < n ∧ 0 < hds (t i)
    · rw [if_pos h2]
      have hm : hds (t i) ≤ 12 := by
        unfold hds
        split
        · omega
        · split
          · omega
          · split <;> omega
      unfold rsD
      refine bnd_le (rd_le t n (hds (t i)) (i + 1)) (fun j1 g1 => ?_) (by omega)
      have := tk_le t n 59 j1
      omega
    · rw [if_neg h2]
      exact Nat.le_add_right _ _
theorem sc1_lt {t : Nat → Nat} {n : Nat} (hn : n ≤ 64) : ∀ m i j, i ≤ 64 → sc1 t n m i = some j → j ≤ 100 := by
  intro m
  induction m with
  | zero => intro i j _ z; cases z
  | succ m ih =>
    intro i j hi z
    rw [sc1_succ] at z
    by_cases h1 : (rsS t n i).1 = true
    · rw [if_pos h1] at z
      by_cases h2 : (rsS t n i).2 < n
      · rw [if_pos h2] at z
        exact ih _ j (by omega) z
      · rw [if_neg h2] at z; cases z
    · rw [if_neg h1] at z
      injection z with z
      have := rs_le t n i
      omega
theorem c_house {t : Nat → Nat} {n : Nat} {hd : Int32} {h : Hp} {σ : Nat → Nat} (hn : n ≤ 64) (ht : ∀ i, i < n → t i ≤ 255) (W : WF σ) (T : TC t n hd h) (C : CO h 5 σ) :
    (∀ j, sc1 t n (n + 1) 0 = some j → ∃ h', P_X5_readHouse 0 h = some ((-1000) - I j, h') ∧ FH h h')
    ∧ (sc1 t n (n + 1) 0 = none → (∀ j, ph2 t n (n + 1) 0 σ = Sum.inl j → ∃ h', P_X5_readHouse 0 h = some ((-2000) - I j, h') ∧ FH h h')
      ∧ (∀ τ, ph2 t n (n + 1) 0 σ = Sum.inr τ → ∃ h1, P_X5_readHouse 0 h = cv (P_X0_become 5 8 h1) (fun h5 => some (I (scn t n (n + 1) 0), h5)) ∧ FH h h1 ∧ CO h1 8 τ ∧ WF τ)) := by
  have F := T.1
  have T0 : TC t n hd (setI h 1 2 (I 0)) := TC_at T (by decide)
  obtain ⟨h1, hd1, e1, e2, e3⟩ := c_scan hn ht n 0 0 FU (setI h 1 2 (I 0)) hd (by omega) (by have := FU_eq; omega) T0 (by rw [setI_at, if_pos ⟨rfl, rfl⟩]) (Nat.le_refl _) (fun _ => rfl) (fun z => by omega)
  have A1 : FxA A3 h h1 := (FxA.set (by decide)).tr e2
  have F1 := e3.1
  have mis : P_X3_misplaced 1 h = some (om (sc1 t n (n + 1) 0), h1) := by
    unfold P_X3_misplaced P_X3_rewind
    rw [rc_1 F, show (0 : Int32) = I 0 from rfl, pi_1 F, cv_some, lt_eq]
    exact e1
  refine ⟨fun j hj => ⟨h1, ?_, FH.fxa F A1 (by simp [A3, LH2])⟩, fun hno => ?_⟩
  · have hl := sc1_lt hn _ _ _ (by omega) hj
    rw [hj] at mis
    unfold P_X5_readHouse
    rw [gr_0_0 F, rc_1 F, mis, ci_some, lt_eq, if_neg (show ¬ om (some j) < 0 by show ¬ I j < I 0; rw [I_ltI (by omega) (by decide)]; omega)]
    rfl
  · rw [hno] at mis
    have C1 : CO h1 5 σ := CO_fx A1 (by simp [A3]) C
    obtain ⟨h2, a1, a2, a3, a4, a5, a6⟩ := become_ok F1 Cc_8 Cc_5 (by decide) (by decide) W C1
    have T2 : TC t n hd1 h2 := by
      have x1 := a5 1 (by decide) (by decide)
      have x2 := a5 2 (by decide) (by decide)
      exact ⟨a3, by rw [x1]; exact e3.2.1, fun i hi => by rw [x2]; exact e3.2.2.1 i hi, by rw [x1]; exact e3.2.2.2⟩
    have T3 : TC t n hd1 (setI h2 1 2 (I 0)) := TC_at T2 (by decide)
    have C3 : CO (setI h2 1 2 (I 0)) 8 σ := CO_fx (A := [1]) (FxA.set (by simp)) (by simp) a6
    have fh2 : FH h (setI h2 1 2 (I 0)) := by
      refine (FH.fxa F A1 (by simp [A3, LH2])).tr (FH.tr (h1 := h2) ⟨by rw [a2]; exact Nat.le_refl _, a3, fun q _ hq => a5 q (fun z => hq (by rw [z]; decide)) (fun z => hq (by rw [z]; decide)), fun q h1 h2 => funext (fun k => a4 q k h2)⟩ (FH.fxa (A := [1]) a3 (FxA.set (by simp)) (by simp [LH2])))
    obtain ⟨r1, r2⟩ := c_run hn ht n 0 0 65 (setI h2 1 2 (I 0)) hd1 σ (by omega) (by omega) (Nat.le_refl _) (by omega) W T3 (by rw [setI_at, if_pos ⟨rfl, rfl⟩]) C3 (fun _ => hno)
    have rd : P_X5_readHouse 0 h = P_X5_readHouse_L38 65 0 (I 0) (setI h2 1 2 (I 0)) := by
      unfold P_X5_readHouse P_X3_rewind
      rw [gr_0_0 F, rc_1 F, mis, ci_some, lt_eq, if_pos (show om none < 0 by decide), gr_0_2 F1, gr_0_1 F1, rc_8 F1, a1, cv_some, gr_0_0 a3, rc_1 a3, show (0 : Int32) = I 0 from rfl, pi_1 a3, cv_some, lt_eq]
    rw [rd]
    refine ⟨fun j hj => ?_, fun τ hτ => ?_⟩
    · obtain ⟨h', q1, q2⟩ := r1 j hj
      exact ⟨h', q1, fh2.tr q2⟩
    · obtain ⟨h', q1, q2, q3⟩ := r2 τ hτ
      rw [Nat.zero_add] at q1
      exact ⟨h', q1, fh2.tr q2, q3⟩
/-! The model's house -/
def A2h : List Nat := [24, 28, 30]
theorem TM_fx {t : Nat → Nat} {n : Nat} {x4 : Int32} {h h' : Hp} {A : List Nat} (T : TM t n x4 h) (a : FxA A h h') (hA : 24 ∉ A ∧ 29 ∉ A) : TM t n x4 h' := ⟨a.fx T.1, by rw [a.2.2 24 hA.1]; exact T.2.1, fun i hi => by rw [a.2.2 29 hA.2]; exact T.2.2.1 i hi, by rw [a.2.2 24 hA.1]; exact T.2.2.2⟩
theorem RD_fx {h h' : Hp} {σ : Nat → Nat} {A : List Nat} (R : RD h σ) (a : FxA A h h') (hA : 28 ∉ A) : RD h' σ := ⟨a.fx R.1, fun j hj => by rw [a.2.2 28 hA]; exact R.2 j hj⟩
theorem m_scan {t : Nat → Nat} {n : Nat} {x4 : Int32} (hn : n ≤ 64) (ht : ∀ i, i < n → t i ≤ 255) : ∀ (k i c m : Nat) (h : Hp), n ≤ i + k → k < m → TM t n x4 h → h.2.1 24 8 = I i → i ≤ 64 → (i = 0 ∨ i < n) →
    ∃ h', (∀ kont, P_X6_reads_L7 m 24 (I c) h kont = (match sc1 t n (k + 1) i with | some j => some ((-1000) - I j, h') | none => kont (I (c + scn t n (k + 1) i)) h')) ∧ FxA A2 h h' ∧ TM t n x4 h' := by
  intro k
  induction k with
  | zero =>
    intro i c m h hk hm T ha hi h0
    have hi0 : i = 0 := by omega
    subst hi0
    obtain ⟨m, rfl⟩ : ∃ m', m = m' + 1 := ⟨m - 1, by omega⟩
    have F := T.1
    obtain ⟨h', e1, e2, e3, e4, e5⟩ := m_stmt hn ht T ha (by omega)
    have hr : (rsS t n 0).1 = false := by
      cases e : (rsS t n 0).1
      · rfl
      · have := (rs_adv e).1; omega
    rw [hr, bi_f] at e1
    refine ⟨h', fun kont => ?_, e2, e3⟩
    rw [sc1_succ, if_neg (by rw [hr]; decide)]
    have F' := e3.1
    unfold P_X6_reads_L7
    rw [rc_24 F, e1, ci_some, if_pos (by rfl), gi_24 F', e4]
  | succ k ih =>
    intro i c m h hk hm T ha hi h0
    obtain ⟨m, rfl⟩ : ∃ m', m = m' + 1 := ⟨m - 1, by omega⟩
    have F := T.1
    obtain ⟨h', e1, e2, e3, e4, e5⟩ := m_stmt hn ht T ha hi
    have F' := e3.1
    have hle := rs_le t n i
    cases hr : (rsS t n i).1
    · rw [hr, bi_f] at e1
      refine ⟨h', fun kont => ?_, e2, e3⟩
      rw [sc1_succ, if_neg (by rw [hr]; decide)]
      unfold P_X6_reads_L7
      rw [rc_24 F, e1, ci_some, if_pos (by rfl), gi_24 F', e4]
    · rw [hr, bi_t] at e1
      have ad := rs_adv hr
      have stp : ∀ kont, P_X6_reads_L7 (m + 1) 24 (I c) h kont = if (rsS t n i).2 < n then P_X6_reads_L7 m 24 (I (c + 1)) h' kont else kont (I (c + 1)) h' := fun kont => by
        conv => lhs; unfold P_X6_reads_L7
        rw [rc_24 F, e1, ci_some, if_neg (show ¬ I 1 = 0 by decide), show I c + 1 = I (c + 1) from I_add c 1, lt_eq, gi_24 F', e4, gi_24 F', e3.2.1]
        by_cases hj : (rsS t n i).2 < n
        · rw [if_pos hj, if_pos (by rw [I_ltI (by omega) (by omega)]; exact hj)]
        · rw [if_neg hj, if_neg (by rw [I_ltI (by omega) (by omega)]; exact hj)]
      by_cases hj : (rsS t n i).2 < n
      · obtain ⟨h2, r1, r2, r3⟩ := ih (rsS t n i).2 (c + 1) m h' (by omega) (by omega) e3 e4 (by omega) (Or.inr hj)
        refine ⟨h2, fun kont => ?_, e2.tr r2, r3⟩
        rw [stp, if_pos hj, r1, sc1_succ t n (k + 1), if_pos hr, if_pos hj, scn_succ t n (k + 1), if_neg (show ¬ n ≤ i by omega), show c + 1 + scn t n (k + 1) (rsS t n i).2 = c + (scn t n (k + 1) (rsS t n i).2 + 1) by omega]
      · refine ⟨h', fun kont => ?_, e2, e3⟩
        rw [stp, if_neg hj, sc1_succ t n (k + 1), if_pos hr, if_neg hj, scn_succ t n (k + 1), if_neg (show ¬ n ≤ i by omega), scn_end (by omega)]
theorem m_run {t : Nat → Nat} {n : Nat} {x4 : Int32} (hn : n ≤ 64) (ht : ∀ i, i < n → t i ≤ 255) (v9 : Int32) : ∀ (k i m : Nat) (h : Hp) (τ : Nat → Nat), n ≤ i + k → k < m → i ≤ n → WF τ → TM t n x4 h → h.2.1 24 8 = I i → RD h τ → (i < n → sc1 t n (k + 1) i = none) →
    (∀ j, ph2 t n (k + 1) i τ = Sum.inl j → ∃ h', P_X6_reads_L53 m 24 v9 h = some ((-2000) - I j, h') ∧ FxA A2h h h' ∧ TM t n x4 h')
    ∧ (∀ τ', ph2 t n (k + 1) i τ = Sum.inr τ' → ∃ h1, P_X6_reads_L53 m 24 v9 h = cv (P_X6_copies 28 26 h1) (fun h8 => some (v9, h8)) ∧ FxA A2h h h1 ∧ TM t n x4 h1 ∧ RD h1 τ') := by
  have stop : ∀ (k i m : Nat) (h : Hp) (τ : Nat → Nat), n ≤ i → 0 < m → i ≤ 64 → TM t n x4 h → h.2.1 24 8 = I i → RD h τ →
    (∀ j, ph2 t n (k + 1) i τ = Sum.inl j → ∃ h', P_X6_reads_L53 m 24 v9 h = some ((-2000) - I j, h') ∧ FxA A2h h h' ∧ TM t n x4 h')
    ∧ (∀ τ', ph2 t n (k + 1) i τ = Sum.inr τ' → ∃ h1, P_X6_reads_L53 m 24 v9 h = cv (P_X6_copies 28 26 h1) (fun h8 => some (v9, h8)) ∧ FxA A2h h h1 ∧ TM t n x4 h1 ∧ RD h1 τ') := by
    intro k i m h τ hi hm hi64 T ha R
    obtain ⟨m, rfl⟩ : ∃ m', m = m' + 1 := ⟨m - 1, by omega⟩
    have F := T.1
    have k1 := T.2.1
    rw [ph2_succ, if_pos hi]
    refine ⟨fun j z => (by cases z), fun τ' z => ?_⟩
    injection z with z
    subst z
    refine ⟨h, ?_, FxA.rf, T, R⟩
    unfold P_X6_reads_L53
    rw [gi_24 F, ha, gi_24 F, k1, if_pos (by rw [I_leI (by omega) (by omega)]; exact hi), gr_24_3 F, gr_24_1 F]
  intro k
  induction k with
  | zero =>
    intro i m h τ hk hm hin W T ha R hs
    exact stop 0 i m h τ (by omega) hm (by omega) T ha R
  | succ k ih =>
    intro i m h τ hk hm hin W T ha R hs
    by_cases hi : n ≤ i
    · exact stop (k + 1) i m h τ hi (by omega) (by omega) T ha R
    · obtain ⟨m, rfl⟩ : ∃ m', m = m' + 1 := ⟨m - 1, by omega⟩
      have F := T.1
      have k1 := T.2.1
      obtain ⟨s1, s2⟩ := sc1_ok (hs (by omega))
      have ad := rs_adv s1
      have hsg := m_sign hn T ha (by omega)
      unfold sg at hsg
      rw [if_pos (by omega)] at hsg
      obtain ⟨h1, e1, e2, e3, e4, e5⟩ := m_stmt hn ht T ha (by omega)
      have F1 := e3.1
      have R1 := RD_fx R e2 (by decide)
      obtain ⟨h2, b1, b2, b3⟩ := m_comes W R1 (ht i (by omega)) (e5 s1) ad.2.1
      have T2 := TM_fx e3 b2 (by decide)
      have a2 : h2.2.1 24 8 = I (rsS t n i).2 := by rw [b2.2.2 24 (by decide)]; exact e4
      have A12 : FxA A2h h h2 := (e2.up (by simp [A2, A2h])).tr (b2.up (by simp [A2h]))
      rw [ph2_succ, if_neg hi]
      have step : P_X6_reads_L53 (m + 1) 24 v9 h = if (bi (obd t n i τ).isSome : Int32) = 0 then some ((-2000) - I i, h2) else P_X6_reads_L53 m 24 v9 h2 := by
        conv => lhs; unfold P_X6_reads_L53
        rw [gi_24 F, ha, gi_24 F, k1, if_neg (by rw [I_leI (by omega) (by omega)]; omega), gi_24 F, ha, lt_eq, rc_24 F, hsg, ci_some, lt_eq, rc_24 F, e1, ci_some, lt_eq, rc_24 F1, b1, ci_some]
      rw [step]
      cases ho : obd t n i τ with
      | none =>
        refine ⟨fun j z => ?_, fun τ' z => by cases z⟩
        injection z with z
        subst z
        exact ⟨h2, if_pos (by rfl), A12, T2⟩
      | some τ2 =>
        have W2 := obd_WF W ad.2.2.2.2 ho
        obtain ⟨r1, r2⟩ := ih (rsS t n i).2 m h2 τ2 (by omega) (by omega) ad.2.2.2.1 W2 T2 a2 (b3 τ2 ho) s2
        rw [if_neg (show ¬ (bi (some τ2).isSome : Int32) = 0 from (by decide : ¬ (I 1 : Int32) = 0))]
        refine ⟨fun j z => ?_, fun τ' z => ?_⟩
        · obtain ⟨h', q1, q2, q3⟩ := r1 j z
          exact ⟨h', q1, A12.tr q2, q3⟩
        · obtain ⟨h', q1, q2, q3, q4⟩ := r2 τ' z
          exact ⟨h', q1, A12.tr q2, q3, q4⟩
theorem m_house {t : Nat → Nat} {n : Nat} {x4 : Int32} {h : Hp} {σ : Nat → Nat} (hn : n ≤ 64) (ht : ∀ i, i < n → t i ≤ 255) (W : WF σ) (T : TM t n x4 h) (M : MS h σ) :
    (∀ j, sc1 t n (n + 1) 0 = some j → ∃ h', P_X6_reads 24 h = some ((-1000) - I j, h') ∧ FxA A2h h h' ∧ TM t n x4 h')
    ∧ (sc1 t n (n + 1) 0 = none → (∀ j, ph2 t n (n + 1) 0 σ = Sum.inl j → ∃ h', P_X6_reads 24 h = some ((-2000) - I j, h') ∧ FxA A2h h h' ∧ TM t n x4 h')
      ∧ (∀ τ, ph2 t n (n + 1) 0 σ = Sum.inr τ → ∃ h1, P_X6_reads 24 h = cv (P_X6_copies 28 26 h1) (fun h8 => some (I (scn t n (n + 1) 0), h8)) ∧ FxA A2h h h1 ∧ TM t n x4 h1 ∧ RD h1 τ)) := by
  have F := T.1
  have T0 : TM t n x4 (setI h 24 8 (I 0)) := TM_at T (by decide)
  obtain ⟨h1, e1, e2, e3⟩ := m_scan (x4 := x4) hn ht n 0 0 FU (setI h 24 8 (I 0)) (by omega) (by have := FU_eq; omega) T0 (by rw [setI_at, if_pos ⟨rfl, rfl⟩]) (by omega) (Or.inl rfl)
  have A1 : FxA A2 h h1 := (FxA.set (by decide)).tr e2
  have F1 := e3.1
  have rd : ∀ K : Int32 → Hp → Option (Int32 × Hp), P_X6_reads 24 h = P_X6_reads_L7 FU 24 (I 0) (setI h 24 8 (I 0)) (fun v8 h4 =>
      gr h4 24 6 1 fun q2 => gr h4 24 6 3 fun q3 => cv (P_X6_copies q2 q3 h4) fun h5 => pi h5 24 6 8 0 fun h6 => P_X6_reads_L53 FU 24 v8 h6) := fun _ => by
    unfold P_X6_reads
    rw [show (0 : Int32) = I 0 from rfl, pi_24 F, lt_eq]
  have rd' := rd (fun _ _ => none)
  rw [e1] at rd'
  refine ⟨fun j hj => ⟨h1, ?_, A1.up (by simp [A2, A2h]), e3⟩, fun hno => ?_⟩
  · rw [rd', hj]
  · rw [hno] at rd'
    have M1 : MS h1 σ := ⟨F1, fun j hj => by rw [A1.2.2 26 (by decide)]; exact M.2 j hj⟩
    have hc := copies_ok F1 (a := 26) (b := 28) (by decide) (by decide) (by decide)
    have F2 : FX (mC h1 28 26 79) := FX_mC F1
    have A2' : FxA [28] h1 (mC h1 28 26 79) := ⟨rfl, rfl, fun q hq => mC_ne (by simpa using hq)⟩
    have A3' : FxA A2h h1 (setI (mC h1 28 26 79) 24 8 (I 0)) := (A2'.up (by simp [A2h])).tr (FxA.set (by decide))
    have T2 : TM t n x4 (setI (mC h1 28 26 79) 24 8 (I 0)) := TM_at (TM_fx e3 A2' (by decide)) (by decide)
    have R2 : RD (setI (mC h1 28 26 79) 24 8 (I 0)) σ := ⟨F2, fun j hj => by
      rw [setI_ne (by decide), mC_at, if_pos ⟨rfl, hj⟩]
      exact M1.2 j hj⟩
    obtain ⟨r1, r2⟩ := m_run (x4 := x4) hn ht (I (0 + scn t n (n + 1) 0)) n 0 FU _ σ (by omega) (by have := FU_eq; omega) (by omega) W T2 (by rw [setI_at, if_pos ⟨rfl, rfl⟩]) R2 (fun _ => hno)
    have rd2 : P_X6_reads 24 h = P_X6_reads_L53 FU 24 (I (0 + scn t n (n + 1) 0)) (setI (mC h1 28 26 79) 24 8 (I 0)) := by
      rw [rd']
      show (gr h1 24 6 1 fun q2 => gr h1 24 6 3 fun q3 => cv (P_X6_copies q2 q3 h1) fun h5 => pi h5 24 6 8 0 fun h6 => P_X6_reads_L53 FU 24 (I (0 + scn t n (n + 1) 0)) h6) = _
      rw [gr_24_1 F1, gr_24_3 F1, hc, cv_some, show (0 : Int32) = I 0 from rfl, pi_24 F2]
    rw [rd2]
    rw [Nat.zero_add] at r1 r2 ⊢
    have A13 := (A1.up (B := A2h) (by simp [A2, A2h])).tr A3'
    refine ⟨fun j hj => ?_, fun τ hτ => ?_⟩
    · obtain ⟨h', q1, q2, q3⟩ := r1 j hj
      exact ⟨h', q1, A13.tr q2, q3⟩
    · obtain ⟨h', q1, q2, q3, q4⟩ := r2 τ hτ
      exact ⟨h', q1, A13.tr q2, q3, q4⟩
