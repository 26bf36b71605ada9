/-- the class's place between the calls, once the letters are no more -/
theorem CI_end {h h1 : Hp} {σ τ im n t ρ} (C : CI h σ im n t ρ) (e0 : h.1 ≤ h1.1) (F1 : FX h1) (ei : ∀ q, q < h.1 → q ≠ 5 → q ≠ 7 → q ∉ LH2 → h1.2.1 q = h.2.1 q) (er : ∀ q, q < 35 → q ≠ 9 → q ≠ 6 → h1.2.2 q = h.2.2 q) (C1 : CO h1 5 τ) :
    kM h (setI h1 1 1 (I 0)) ∧ CI (setI h1 1 1 (I 0)) τ im 0 t ρ := by
  obtain ⟨F, c1, c2, c3, c4, c5⟩ := C
  have h35 := F.1
  refine ⟨⟨F1, fun p h2 h3 => ?_⟩, ?_⟩
  · rw [setI_ne (by omega), ei p (by omega) (by omega) (by omega) (by simp [LH2]; omega)]
  · refine ⟨F1, CO_fx (A := [1]) (FxA.set (by simp)) (by simp) C1, fun i hi => ?_, ?_, by rw [setI_at, if_pos ⟨rfl, rfl⟩], fun i hi => by omega⟩
    · rw [setI_ne (by decide), ei 23 (by omega) (by decide) (by decide) (by decide)]
      exact c2 i hi
    · rcases c3 with ⟨x1, x2⟩ | ⟨ι, x1, x2, x3⟩
      · exact Or.inl ⟨x1, by rw [setI_ne (by decide), ei 0 (by omega) (by decide) (by decide) (by decide)]; exact x2⟩
      · refine Or.inr ⟨ι, x1, by rw [setI_ne (by decide), ei 0 (by omega) (by decide) (by decide) (by decide)]; exact x2, CO_fx (A := [1]) (FxA.set (by simp)) (by simp) (CO_ag e0 (fun j => by rw [ei 11 (by omega) (by decide) (by decide) (by decide)]) (fun j => by rw [ei 13 (by omega) (by decide) (by decide) (by decide)]) (fun j => by rw [er 12 (by decide) (by decide) (by decide)]) (fun q h1 h2 => ei q h2 (by omega) (by omega) (by simp [LH2]; omega)) x3)⟩
theorem CO_fh {h h1 : Hp} {σ : Nat → Nat} (F : FX h) (f : FH h h1) (C : CO h 5 σ) : CO h1 5 σ := by
  have h35 := F.1
  exact CO_ag f.1 (fun j => by rw [f.2.2.1 5 (by omega) (by decide)]) (fun j => by rw [f.2.2.1 7 (by omega) (by decide)]) (fun j => by rw [f.2.2.2 6 (by decide) (by decide)]) (fun q h1 h2 => f.2.2.1 q h2 (by simp [LH2]; omega)) C
theorem c_house_of {h h1 : Hp} {r : Int32} (F : FX h) (F1 : FX h1) (e : P_X5_readHouse 0 h = some (r, h1)) : P_X5_house 0 h = some (r, setI h1 1 1 (I 0)) := by
  unfold P_X5_house P_X3_wipe
  rw [rc_0 F, e, ci_some, lt_eq, gr_0_0 F1, rc_1 F1, show (0 : Int32) = I 0 from rfl, pi_1 F1, cv_some]
theorem m_house_of {h h1 : Hp} {r : Int32} (F : FX h) (F1 : FX h1) (e : P_X6_reads 24 h = some (r, h1)) : P_X6_house 24 h = some (r, setI h1 24 7 (I 0)) := by
  unfold P_X6_house
  rw [rc_24 F, e, ci_some, lt_eq, show (0 : Int32) = I 0 from rfl, pi_24 F1]
theorem MI_end {h h1 : Hp} {σ τ im n t ρ} (M : MI h σ im n t ρ) (F1 : FX h1) (ei : ∀ q, q = 25 ∨ q = 27 → h1.2.1 q = h.2.1 q) (e4 : h1.2.1 24 4 = h.2.1 24 4) (S : ∀ j, j < 79 → h1.2.1 26 j = I (τ j)) : MI (setI h1 24 7 (I 0)) τ im 0 t ρ := by
  obtain ⟨m1, m2, m3, m4, m5⟩ := M
  refine ⟨⟨F1, fun j hj => by rw [setI_ne (by decide)]; exact S j hj⟩, fun i hi => by rw [setI_ne (by decide), ei 25 (by simp)]; exact m2 i hi, ?_, by rw [setI_at, if_pos ⟨rfl, rfl⟩], fun i hi => by omega⟩
  rcases m3 with ⟨x1, x2⟩ | ⟨ι, x1, x2, x3⟩
  · exact Or.inl ⟨x1, by rw [setI_at, if_neg (by decide), e4]; exact x2⟩
  · exact Or.inr ⟨ι, x1, by rw [setI_at, if_neg (by decide), e4]; exact x2, fun j hj => by rw [setI_ne (by decide), ei 27 (by simp)]; exact x3 j hj⟩
theorem s_house : Step (P_X5_house 0) (P_X6_house 24) := by
  intro h ⟨σ, im, n, t, ρ, G, C, M⟩
  have W := G.1
  have F := C.1
  have CC := C.2.1
  have hn := G.2.2.1
  have ht := G.2.2.2
  have h35 := F.1
  have T : TC t n (h.2.1 1 3) h := ⟨F, C.2.2.2.2.1, C.2.2.2.2.2, rfl⟩
  obtain ⟨cf, cg⟩ := c_house hn ht W T CC
  -- nothing but the letters is lost
  have keep : ∀ (r : Int32) (h1 : Hp), P_X5_readHouse 0 h = some (r, h1) → FH h h1 → (∀ g x4, FX g → TM t n x4 g → MS g σ → ∃ g', P_X6_reads 24 g = some (r, g') ∧ FxA A2h g g' ∧ TM t n x4 g') →
      ∃ r h1 h2, P_X5_house 0 h = some (r, h1) ∧ P_X6_house 24 h1 = some (r, h2) ∧ FX h1 ∧ Inv h2 := by
    intro r h1 e1 f1 hm
    have F1 := f1.2.1
    obtain ⟨ek, C'⟩ := CI_end C f1.1 F1 (fun q a _ _ d => f1.2.2.1 q a d) (fun q a b _ => f1.2.2.2 q a b) (CO_fh F f1 CC)
    have M1 := MI_k ek M
    have TM1 : TM t n ((setI h1 1 1 (I 0)).2.1 24 4) (setI h1 1 1 (I 0)) := ⟨M1.1.1, M1.2.2.2.1, M1.2.2.2.2, rfl⟩
    obtain ⟨g', b1, b2, b3⟩ := hm _ _ M1.1.1 TM1 M1.1
    refine both_ok (σ' := σ) (im' := im) (n' := 0) (t' := t) (ρ' := ρ) M ⟨W, G.2.1, by omega, fun i hi => by omega⟩ ⟨r, _, c_house_of F F1 e1, ek, C', setI g' 24 7 (I 0), m_house_of M1.1.1 b3.1 b1, b3.1, b2.1, fun q hq => ?_, fun q => by show g'.2.2 q = _; rw [b2.2.1], ?_⟩
    · rw [setI_ne (by omega)]
      exact b2.2.2 q (by simp [A2h]; omega)
    · exact MI_end M1 b3.1 (fun q hq => b2.2.2 q (by simp [A2h]; omega)) b3.2.2.2 (fun j hj => by rw [b2.2.2 26 (by decide)]; exact M1.1.2 j hj)
  cases hs : sc1 t n (n + 1) 0 with
  | some j =>
    obtain ⟨h1, e1, f1⟩ := cf j hs
    exact keep _ h1 e1 f1 (fun g x4 Fg Tg Sg => (m_house hn ht W Tg Sg).1 j hs)
  | none =>
    obtain ⟨cg1, cg2⟩ := cg hs
    cases hp : ph2 t n (n + 1) 0 σ with
    | inl j =>
      obtain ⟨h1, e1, f1⟩ := cg1 j hp
      exact keep _ h1 e1 f1 (fun g x4 Fg Tg Sg => ((m_house hn ht W Tg Sg).2 hs).1 j hp)
    | inr τ =>
      obtain ⟨h1, e1, f1, C1, W1⟩ := cg2 τ hp
      have F1 := f1.2.1
      obtain ⟨h5, a1, a2, a3, a4, a5, a6⟩ := become_ok F1 Cc_5 Cc_8 (by decide) (by decide) W1 C1
      rw [a1, cv_some] at e1
      have hle := f1.1
      obtain ⟨ek, C'⟩ := CI_end (h1 := h5) (τ := τ) C (by omega) a3 (fun q x1 x2 x3 x4 => (a5 q x2 x3).trans (f1.2.2.1 q x1 x4)) (fun q x1 x2 x3 => (funext (fun k => a4 q k x3)).trans (f1.2.2.2 q x1 x2)) a6
      have M1 := MI_k ek M
      have TM1 : TM t n ((setI h5 1 1 (I 0)).2.1 24 4) (setI h5 1 1 (I 0)) := ⟨M1.1.1, M1.2.2.2.1, M1.2.2.2.2, rfl⟩
      obtain ⟨g1, b1, b2, b3, b4⟩ := ((m_house hn ht W TM1 M1.1).2 hs).2 τ hp
      have hc := copies_ok b3.1 (a := 28) (b := 26) (by decide) (by decide) (by decide)
      rw [hc, cv_some] at b1
      have F3 : FX (mC g1 26 28 79) := FX_mC b3.1
      refine both_ok (σ' := τ) (im' := im) (n' := 0) (t' := t) (ρ' := ρ) M ⟨W1, G.2.1, by omega, fun i hi => by omega⟩ ⟨_, _, c_house_of F a3 e1, ek, C', setI (mC g1 26 28 79) 24 7 (I 0), m_house_of M1.1.1 F3 b1, F3, b2.1, fun q hq => ?_, fun q => by show g1.2.2 q = _; rw [b2.2.1], ?_⟩
      · rw [setI_ne (by omega), mC_ne (by omega)]
        exact b2.2.2 q (by simp [A2h]; omega)
      · exact MI_end M1 F3 (fun q hq => by rw [mC_ne (by omega)]; exact b2.2.2 q (by simp [A2h]; omega)) (by rw [mC_ne (by decide)]; exact b3.2.2.2) (fun j hj => by rw [mC_at, if_pos ⟨rfl, hj⟩]; exact b4.2 j hj)
