theorem m_comesRow {σ dg : Nat → Nat} {h : Hp} (W : WF σ) (R : RD h σ) {m : Nat} (hm : m ≤ 12) (h9 : h.2.1 24 9 = I m) (hd : ∀ x, x < m → h.2.1 30 x = I (dg x)) (hdg : ∀ x, x < m → dg x ≤ 9) {c b : Nat} (hc : (c = 104 ∧ b = 4) ∨ (c = 119 ∧ b = 16)) :
    OBm (P_X6_comesRow 24 (I c) h) h (if m = σ 0 ∧ alr (if c = 104 then fh σ dg else fw σ dg) (σ 0) = true then some (rowset σ b dg (σ 0)) else none) := by
  have hw := W.1
  have F := R.1
  have s0 := R.2 0 (by decide)
  unfold P_X6_comesRow
  rw [gi_24 F, h9, gr_24_3 F, show (0 : Int32) = I 0 from rfl, al_28 F (by decide), s0]
  by_cases e : m = σ 0
  · subst e
    rw [if_pos rfl, lt_eq, m_check W R h9 hd hdg (by omega) _ (σ 0) 0 FU (by omega) (by have := FU_eq; omega) (fun y hy => by omega)]
    by_cases ha : alr (if c = 104 then fh σ dg else fw σ dg) (σ 0) = true
    · obtain ⟨h', r1, r2, r3⟩ := m_setrow (b := b) W hc (σ 0) 0 FU h (by omega) (by have := FU_eq; omega) (by rw [rowset_0]; exact R) h9 hd
      rw [if_pos ha, if_pos ⟨rfl, ha⟩, lt_eq]
      exact OBm_yes r2 r3 r1
    · rw [if_neg ha, if_neg (fun z => ha z.2)]
      exact OBm_no rfl
  · rw [if_neg (by rw [I_eqI (by omega) (by omega)]; exact e), if_neg (fun z => e z.1)]
    exact OBm_no rfl
theorem m_cleared {h : Hp} {σ : Nat → Nat} (R : RD h σ) {j a : Nat} : ∃ h', (rc (setI h 28 j (I a)) 24 6 <| cv (P_X6_clearsRead 24 (setI h 28 j (I a))) fun h2 => some (1, h2)) = some ((I 1 : Int32), h') ∧ FxA [28] h h' ∧ RD h' (clr (upn σ j a)) := by
  have R1 := RD_set R j a
  obtain ⟨h', e1, e2, e3⟩ := m_clears R1
  refine ⟨h', ?_, (FxA.set (by simp)).tr e2, e3⟩
  rw [rc_24 R1.1, e1, cv_some]
  rfl
theorem m_person_L {h : Hp} {σ : Nat → Nat} (W : WF σ) (R : RD h σ) (h7 : σ 2 < 7) {kd A B c : Nat} (h0 : h.2.1 30 0 = I kd) (h1 : h.2.1 30 1 = I A) (h2 : h.2.1 30 2 = I B) (h3 : h.2.1 30 3 = I c) : ∃ h', P_X6_comes_L168 FU 24 (I 0) h = some (I 1, h') ∧ FxA [28] h h' ∧ RD h' (prs σ kd A B c) := by
  obtain ⟨m, hm⟩ : ∃ m, FU = m + 5 := ⟨39995, FU_eq⟩
  have F := R.1
  have s2 := R.2 2 (by decide)
  have RR := RD_set (RD_set (RD_set (RD_set (RD_set R (40 + 4 * σ 2 + 0) kd) (40 + 4 * σ 2 + 1) A) (40 + 4 * σ 2 + 2) B) (40 + 4 * σ 2 + 3) c) 2 (σ 2 + 1)
  refine ⟨_, ?_, ((((FxA.set (by simp)).tr (FxA.set (by simp))).tr (FxA.set (by simp))).tr (FxA.set (by simp))).tr (FxA.set (by simp)), RD_congr RR (fun j hj => ?_)⟩
  · have st : ∀ (mm x : Nat) (g : Hp) (v : Nat), x < 4 → FX g → g.2.1 28 2 = I (σ 2) → g.2.1 30 x = I v → P_X6_comes_L168 (mm + 1) 24 (I x) g = P_X6_comes_L168 mm 24 (I (x + 1)) (setI g 28 (40 + 4 * σ 2 + x) (I v)) := by
      intro mm x g v hx G g2 gv
      conv => lhs; unfold P_X6_comes_L168
      rw [if_neg (by show ¬ I 4 ≤ I x; rw [I_leI (by decide) (by omega)]; omega), gr_24_3 G, gr_24_3 G, show (2 : Int32) = I 2 from rfl, al_28 G (by decide), g2, gr_24_6 G, al_30 G (by omega), gv, show (40 : Int32) + 4 * I (σ 2) + I x = I (40 + 4 * σ 2 + x) by rw [show (40 : Int32) = I 40 from rfl, show (4 : Int32) = I 4 from rfl, I_mul, I_add, I_add], as_28 G (by omega), lt_eq, show I x + 1 = I (x + 1) from I_add x 1]
    have k2 : ∀ (g : Hp) (p v : Nat), 40 ≤ p → (setI g 28 p (I v)).2.1 28 2 = g.2.1 28 2 := fun g p v hp => by rw [setI_at, if_neg (by omega)]
    have k3 : ∀ (g : Hp) (p v x : Nat), (setI g 28 p (I v)).2.1 30 x = g.2.1 30 x := fun g p v x => by rw [setI_ne (by decide)]
    have x1 := st (m + 4) 0 h kd (by omega) F s2 h0
    have x2 := st (m + 3) 1 (setI h 28 (40 + 4 * σ 2 + 0) (I kd)) A (by omega) F (by rw [k2 _ _ _ (by omega)]; exact s2) (by rw [k3]; exact h1)
    have x3 := st (m + 2) 2 (setI (setI h 28 (40 + 4 * σ 2 + 0) (I kd)) 28 (40 + 4 * σ 2 + 1) (I A)) B (by omega) F (by rw [k2 _ _ _ (by omega), k2 _ _ _ (by omega)]; exact s2) (by rw [k3, k3]; exact h2)
    have x4 := st (m + 1) 3 (setI (setI (setI h 28 (40 + 4 * σ 2 + 0) (I kd)) 28 (40 + 4 * σ 2 + 1) (I A)) 28 (40 + 4 * σ 2 + 2) (I B)) c (by omega) F (by rw [k2 _ _ _ (by omega), k2 _ _ _ (by omega), k2 _ _ _ (by omega)]; exact s2) (by rw [k3, k3, k3]; exact h3)
    have G : FX (setI (setI (setI (setI h 28 (40 + 4 * σ 2 + 0) (I kd)) 28 (40 + 4 * σ 2 + 1) (I A)) 28 (40 + 4 * σ 2 + 2) (I B)) 28 (40 + 4 * σ 2 + 3) (I c)) := F
    have x5 : P_X6_comes_L168 (m + 1) 24 (I (3 + 1)) (setI (setI (setI (setI h 28 (40 + 4 * σ 2 + 0) (I kd)) 28 (40 + 4 * σ 2 + 1) (I A)) 28 (40 + 4 * σ 2 + 2) (I B)) 28 (40 + 4 * σ 2 + 3) (I c)) = some (I 1, setI (setI (setI (setI (setI h 28 (40 + 4 * σ 2 + 0) (I kd)) 28 (40 + 4 * σ 2 + 1) (I A)) 28 (40 + 4 * σ 2 + 2) (I B)) 28 (40 + 4 * σ 2 + 3) (I c)) 28 2 (I (σ 2 + 1))) := by
      unfold P_X6_comes_L168
      rw [if_pos (show (4 : Int32) ≤ I (3 + 1) by decide), gr_24_3 G, show (2 : Int32) = I 2 from rfl, al_28 G (by decide), k2 _ _ _ (by omega), k2 _ _ _ (by omega), k2 _ _ _ (by omega), k2 _ _ _ (by omega), s2, as_28 G (by decide), show I (σ 2) + 1 = I (σ 2 + 1) from I_add (σ 2) 1]
      rfl
    rw [hm]
    exact x1.trans (x2.trans (x3.trans (x4.trans x5)))
  · unfold upn prs
    by_cases e0 : j = 2
    · rw [if_pos e0, if_pos e0]
    rw [if_neg e0, if_neg e0]
    by_cases e1 : j = 40 + 4 * σ 2 + 3
    · rw [if_pos e1, if_neg (by omega), if_neg (by omega), if_neg (by omega), if_pos (by omega)]
    rw [if_neg e1]
    by_cases e2 : j = 40 + 4 * σ 2 + 2
    · rw [if_pos e2, if_neg (by omega), if_neg (by omega), if_pos (by omega)]
    rw [if_neg e2]
    by_cases e3 : j = 40 + 4 * σ 2 + 1
    · rw [if_pos e3, if_neg (by omega), if_pos (by omega)]
    rw [if_neg e3]
    by_cases e4 : j = 40 + 4 * σ 2 + 0
    · rw [if_pos e4, if_pos (by omega)]
    rw [if_neg e4, if_neg (by omega), if_neg (by omega), if_neg (by omega), if_neg (by omega)]
theorem m_comes {t : Nat → Nat} {n i : Nat} {h : Hp} {σ : Nat → Nat} (W : WF σ) (R : RD h σ) (hb : t i ≤ 255) (D : DTm t n i h) (hok : 0 < hds (t i) ∨ t i = 112) : OBm (P_X6_comes 24 (I (t i)) h) h (obd t n i σ) := by
  obtain ⟨D1, D2⟩ := D
  have F := R.1
  have hw := W.1
  have hw7 := W.2.2.1
  have s0 := R.2 0 (by decide)
  have s2 := R.2 2 (by decide)
  have q : ∀ (c : Nat), c < 256 → (I (t i) = I c) = (t i = c) := fun c hc => I_eqI (by omega) (by omega)
  unfold P_X6_comes obd
  rw [gr_24_6 F, show (0 : Int32) = I 0 from rfl, al_30 F (by decide), lt_eq, show (107 : Int32) = I 107 from rfl, show (110 : Int32) = I 110 from rfl, show (112 : Int32) = I 112 from rfl, show (115 : Int32) = I 115 from rfl, show (1 : Int32) = I 1 from rfl, show (2 : Int32) = I 2 from rfl, show (3 : Int32) = I 3 from rfl, show (12 : Int32) = I 12 from rfl]
  by_cases e2 : t i = 107
  · rw [if_pos (by rw [e2]), if_neg (show ¬ t i = 110 by omega), if_pos e2]
    have hh : hds (t i) = 1 := by rw [e2]; rfl
    have d1 := (D1 (by rw [hh]; decide)).1 (by omega)
    have hl := oa_lt (t := t) (n := n) (i := i) (by omega)
    rw [d1]
    by_cases c1 : oa t n i = 2
    · obtain ⟨h', r1, r2, r3⟩ := m_cleared (j := 1) (a := oa t n i) R
      rw [if_pos (by rw [c1]), if_pos (Or.inl c1), gr_24_3 F, as_28 F (by decide)]
      exact OBm_yes r2 r3 r1
    rw [if_neg (by rw [I_eqI (by omega) (by decide)]; exact c1)]
    by_cases c2 : oa t n i = 3
    · obtain ⟨h', r1, r2, r3⟩ := m_cleared (j := 1) (a := oa t n i) R
      rw [if_pos (by rw [c2]), if_pos (Or.inr c2), gr_24_3 F, as_28 F (by decide)]
      exact OBm_yes r2 r3 r1
    rw [if_neg (by rw [I_eqI (by omega) (by decide)]; exact c2), if_neg (by omega)]
    exact OBm_no rfl
  rw [if_neg (by rw [q 107 (by decide)]; exact e2)]
  by_cases e3 : t i = 110
  · rw [if_pos (by rw [e3]), if_pos e3]
    have hh : hds (t i) = 2 := by rw [e3]; rfl
    have d1 := (D1 (by rw [hh]; decide)).1 (by omega)
    have hl := oa_lt (t := t) (n := n) (i := i) (by omega)
    rw [d1]
    by_cases c1 : oa t n i < 1
    · rw [if_pos (by rw [I_ltI (by omega) (by decide)]; exact c1), if_neg (by omega)]
      exact OBm_no rfl
    rw [if_neg (by rw [I_ltI (by omega) (by decide)]; exact c1)]
    by_cases c2 : oa t n i ≤ 12
    · obtain ⟨h', r1, r2, r3⟩ := m_cleared (j := 0) (a := oa t n i) R
      rw [if_pos (by rw [I_leI (by omega) (by decide)]; exact c2), if_pos (by omega), gr_24_3 F, as_28 F (by decide)]
      exact OBm_yes r2 r3 r1
    rw [if_neg (by rw [I_leI (by omega) (by decide)]; exact c2), if_neg (by omega)]
    exact OBm_no rfl
  rw [if_neg (by rw [q 110 (by decide)]; exact e3)]
  by_cases e4 : t i = 112
  · rw [if_pos (by rw [e4]), if_neg e3, if_neg e2, if_pos e4]
    obtain ⟨d0, d1, d2, d3⟩ := D2 e4
    have lA := qA_lt t n i
    have lB := qB_lt t n i
    rw [gr_24_6 F, al_30 F (by decide), d1]
    by_cases c1 : qA t n i < 1
    · rw [if_pos (by rw [I_ltI (by omega) (by decide)]; exact c1), if_neg (by omega)]
      exact OBm_no rfl
    rw [if_neg (by rw [I_ltI (by omega) (by decide)]; exact c1), gr_24_6 F, al_30 F (by decide), d1]
    by_cases c2 : 12 < qA t n i
    · rw [if_pos (by rw [I_ltI (by decide) (by omega)]; exact c2), if_neg (by omega)]
      exact OBm_no rfl
    rw [if_neg (by rw [I_ltI (by decide) (by omega)]; exact c2), gr_24_6 F, al_30 F (by decide), d2]
    by_cases c3 : qB t n i < 1
    · rw [if_pos (by rw [I_ltI (by omega) (by decide)]; exact c3), if_neg (by omega)]
      exact OBm_no rfl
    rw [if_neg (by rw [I_ltI (by omega) (by decide)]; exact c3), gr_24_6 F, al_30 F (by decide), d2]
    by_cases c4 : 12 < qB t n i
    · rw [if_pos (by rw [I_ltI (by decide) (by omega)]; exact c4), if_neg (by omega)]
      exact OBm_no rfl
    rw [if_neg (by rw [I_ltI (by decide) (by omega)]; exact c4), gr_24_3 F, al_28 F (by decide), s2]
    by_cases c5 : σ 2 = 7
    · rw [if_pos (by show I (σ 2) = I 7; rw [c5]), if_neg (by omega)]
      exact OBm_no rfl
    obtain ⟨h', r1, r2, r3⟩ := m_person_L W R (by omega) d0 d1 d2 d3
    rw [if_neg (by show ¬ I (σ 2) = I 7; rw [I_eqI (by omega) (by decide)]; exact c5), if_pos (by omega)]
    exact OBm_yes r2 r3 r1
  rw [if_neg (by rw [q 112 (by decide)]; exact e4)]
  by_cases e5 : t i = 115
  · rw [if_pos (by rw [e5]), if_neg e3, if_neg e2, if_neg e4, if_pos e5]
    have hh : hds (t i) = 2 := by rw [e5]; rfl
    have d1 := (D1 (by rw [hh]; decide)).1 (by omega)
    have hl := oa_lt (t := t) (n := n) (i := i) (by omega)
    rw [d1]
    by_cases c1 : oa t n i < 1
    · rw [if_pos (by rw [I_ltI (by omega) (by decide)]; exact c1), if_neg (by omega)]
      exact OBm_no rfl
    rw [if_neg (by rw [I_ltI (by omega) (by decide)]; exact c1), gr_24_3 F, al_28 F (by decide), s0]
    by_cases c2 : oa t n i ≤ σ 0
    · rw [if_pos (by rw [I_leI (by omega) (by omega)]; exact c2), if_pos (by omega)]
      have ss := R.2 (27 + oa t n i) (by omega)
      have hs1 := W.2.2.2.2.2.2.1 (oa t n i - 1) (by omega)
      rw [show 28 + (oa t n i - 1) = 27 + oa t n i by omega] at hs1
      have ei : (28 : Int32) + I (oa t n i) - I 1 = I (27 + oa t n i) := by
        rw [show (28 : Int32) = I 28 from rfl, I_add, I_sub (by omega)]
        congr 1
        omega
      refine OBm_yes (FxA.set (by simp)) (RD_set R (27 + oa t n i) (1 - σ (27 + oa t n i))) ?_
      rw [gr_24_3 F, gr_24_3 F, ei, al_28 F (by omega), ss, as_28 F (by omega), I_sub (by omega)]
    · rw [if_neg (by rw [I_leI (by omega) (by omega)]; exact c2), if_neg (by omega)]
      exact OBm_no rfl
  rw [if_neg (by rw [q 115 (by decide)]; exact e5), if_neg e3, if_neg e2, if_neg e4, if_neg e5, rc_24 F]
  have lt : ∀ {x : Option (Nat → Nat)} {P : Option (Int32 × Hp)}, OBm P h x → OBm (ci P fun v h' => bz v <| some (v, h')) h x := by
    intro x P ⟨h', e1, e2, e3⟩
    refine ⟨h', ?_, e2, e3⟩
    rw [e1, ci_some]
    cases x
    · exact bz_0
    · exact bz_1
  have hdg : ∀ x, x < ok1 t n i → od t i x ≤ 9 := fun x hx => by
    have := dcn_dg _ _ x hx
    unfold od
    omega
  have e6 : t i = 119 ∨ t i = 104 := by
    rcases hok with hok | hok
    · unfold hds at hok
      by_cases c1 : t i = 110 ∨ t i = 115
      · omega
      · rw [if_neg c1, if_neg e2] at hok
        by_cases c2 : t i = 119 ∨ t i = 104
        · exact c2
        · rw [if_neg c2] at hok; omega
    · exact absurd hok e4
  have hh : hds (t i) = 12 := by rcases e6 with e6 | e6 <;> rw [e6] <;> rfl
  have hl := dcn_le t n (hds (t i)) (i + 1)
  obtain ⟨d9, dd⟩ := (D1 (by rw [hh]; decide)).2 hh
  have hm : ok1 t n i ≤ 12 := by unfold ok1; omega
  rcases e6 with e6 | e6
  · rw [if_pos e6]
    have := m_comesRow (c := t i) (b := 16) W R hm d9 dd hdg (Or.inr ⟨e6, rfl⟩)
    rw [if_neg (show ¬ t i = 104 by omega)] at this
    exact lt this
  · rw [if_neg (by omega)]
    have := m_comesRow (c := t i) (b := 4) W R hm d9 dd hdg (Or.inl ⟨e6, rfl⟩)
    rw [if_pos (show t i = 104 from e6)] at this
    exact lt this
