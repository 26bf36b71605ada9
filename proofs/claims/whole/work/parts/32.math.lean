/-! What the document means, on the state told in naturals: 0 doors, 1 colours, 2 people, 3 logged, 4.. ways, 16.. wish, 28.. stuck, 40.. people (kind, A, B, cost), 68.. log, 78 goings -/
def gt (k a b d : Nat) : Bool :=
  if k = 1 then decide (a % d = 0) else if k = 2 then decide (d % a = 0) && decide (d % b = 0) else if k = 3 then decide (d % a = 0) || decide (d % b = 0)
  else if k = 4 then decide (d % a = 0) != decide (d % b = 0) else if k = 5 then decide (a ≤ d) && decide (d ≤ b) else decide (d % a = 0)
/-- does p's goer turn door d, stuck or not -/
def gp (σ : Nat → Nat) (p d : Nat) : Bool := gt (σ (40 + 4 * p)) (σ (41 + 4 * p)) (σ (42 + 4 * p)) d
/-- does p turn door d -/
def tn (σ : Nat → Nat) (p d : Nat) : Bool := !decide (σ (27 + d) = 1) && gp σ p d
/-- p's doors as bits -/
def tm (σ : Nat → Nat) (p : Nat) : Nat := msk (fun i => tn σ p (i + 1)) (σ 0)
def WF (σ : Nat → Nat) : Prop :=
  (1 ≤ σ 0 ∧ σ 0 ≤ 12) ∧ (σ 1 = 2 ∨ σ 1 = 3) ∧ σ 2 ≤ 7 ∧ σ 3 ≤ 10 ∧ (∀ i, i < 12 → σ (4 + i) < σ 1) ∧ (∀ i, i < 12 → σ (16 + i) < σ 1 ∨ σ (16 + i) = 9) ∧ (∀ i, i < 12 → σ (28 + i) ≤ 1)
  ∧ (∀ p, p < σ 2 → σ (40 + 4 * p) ≤ 5 ∧ (1 ≤ σ (41 + 4 * p) ∧ σ (41 + 4 * p) ≤ 12) ∧ (1 ≤ σ (42 + 4 * p) ∧ σ (42 + 4 * p) ≤ 12) ∧ σ (43 + 4 * p) ≤ 9)
  ∧ (∀ i, i < σ 3 → σ (68 + i) < σ 2 ∨ σ (68 + i) = 9)
  ∧ (∀ i, σ 0 ≤ i → i < 12 → σ (4 + i) = 0 ∧ σ (16 + i) = 9 ∧ σ (28 + i) = 0)
theorem WF.col {σ : Nat → Nat} (w : WF σ) : 2 ≤ σ 1 ∧ σ 1 ≤ 3 := by rcases w.2.1 with h | h <;> omega
/-- where the wish matters: both bits of each door with one -/
def mnd (σ : Nat → Nat) : Nat := msk (fun i => if i < 12 then !decide (σ (16 + i) = 9) else !decide (σ (16 + (i - 12)) = 9)) 24
def stk (σ : Nat → Nat) : Nat := msk (fun i => decide (σ (28 + i) = 1)) 12
theorem dif_msk (g s : Nat → Bool) {n m : Nat} (h : n ≤ m) : dif (msk g n) (msk s m) = msk (fun i => !s i && g i) n := by
  apply Nat.eq_of_testBit_eq
  intro i
  rw [tb_dif, tb_msk, tb_msk, tb_msk]
  by_cases hi : i < n
  · have : i < m := Nat.lt_of_lt_of_le hi h
    simp [hi, this, Bool.and_comm]
  · simp [hi]
theorem I_ex {a : Int32} (h : ¬ a < I 0) : ∃ n, n < 2147483648 ∧ a = I n := by
  have h0 : (0 : Int) ≤ a.toInt := by
    rw [Int32.lt_iff_toInt_lt, I_int (by decide)] at h
    omega
  refine ⟨a.toNatClampNeg, ?_, ?_⟩
  · have := Int32.toInt_lt a
    have e : (a.toNatClampNeg : Int) = a.toInt := by
      rw [← Int32.toNat_toInt]
      exact Int.toNat_of_nonneg h0
    omega
  · apply Int32.toInt_inj.mp
    have e : (a.toNatClampNeg : Int) = a.toInt := by
      rw [← Int32.toNat_toInt]
      exact Int.toNat_of_nonneg h0
    have := Int32.toInt_lt a
    rw [I_int (by omega), e]
theorem I_in {a : Int32} {n : Nat} (hn : n < 2147483648) (h0 : ¬ a < I 0) (h1 : ¬ I n ≤ a) : ∃ k, k < n ∧ a = I k := by
  obtain ⟨k, hk, rfl⟩ := I_ex h0
  rw [I_leI hn hk] at h1
  exact ⟨k, by omega, rfl⟩
theorem I_in1 {a : Int32} {n : Nat} (hn : n < 2147483648) (h0 : ¬ a < I 1) (h1 : ¬ I n < a) : ∃ k, 1 ≤ k ∧ k ≤ n ∧ a = I k := by
  have h00 : ¬ a < I 0 := by
    rw [Int32.lt_iff_toInt_lt, I_int (by decide)] at h0 ⊢
    omega
  obtain ⟨k, hk, rfl⟩ := I_ex h00
  rw [I_ltI hn hk] at h1
  rw [I_ltI hk (by decide)] at h0
  exact ⟨k, by omega, by omega, rfl⟩
-- ways after being turned
/-- one more, where t says so -/
def tw (c : Nat) (f : Nat → Nat) (t : Nat → Bool) (i : Nat) : Nat := (f i + if t i then 1 else 0) % c
def turnedN (w t c : Nat) : Nat := if c = 2 then w ^^^ t else
  let v1 := w &&& 4095
  let v2 := (w >>> 12) &&& 4095
  let v3 := dif 4095 (v1 ||| v2)
  let v4 := dif v1 t ||| (v3 &&& t)
  let v5 := dif v2 t ||| (v1 &&& t)
  v4 ||| (v5 <<< 12)
theorem tb_4095 (i : Nat) : (4095 : Nat).testBit i = decide (i < 12) := by
  have : (4095 : Nat) = 2 ^ 12 - 1 := by decide
  rw [this, Nat.testBit_two_pow_sub_one]
theorem turned_enc {c n : Nat} {f : Nat → Nat} {t : Nat → Bool} (hc : c = 2 ∨ c = 3) (hn : n ≤ 12) (hf : ∀ i, i < 12 → f i < c) : turnedN (enc f) (msk t n) c = enc (tw c f (fun i => decide (i < n) && t i)) := by
  apply Nat.eq_of_testBit_eq
  intro i
  unfold turnedN
  rw [tb_enc]
  rcases hc with rfl | rfl
  · rw [if_pos rfl, Nat.testBit_xor, tb_enc, tb_msk]
    by_cases h1 : i < 12
    · have h2 : i < 24 := by omega
      have h3 := hf i h1
      simp only [h1, h2, decide_true, Bool.true_and, if_true, tw]
      have h4 : f i = 0 ∨ f i = 1 := by omega
      rcases h4 with h4 | h4 <;> by_cases h5 : i < n <;> rcases Bool.eq_false_or_eq_true (t i) with h6 | h6 <;> simp [h4, h5, h6]
    · by_cases h2 : i < 24
      · have h3 := hf (i - 12) (by omega)
        have h5 : ¬ i < n := by omega
        have h7 : ¬ f (i - 12) = 2 := by omega
        have h8 : ∀ x : Nat, ¬ x % 2 = 2 := fun x => by omega
        simp [h1, h2, h5, h7, h8, tw]
      · have h5 : ¬ i < n := by omega
        simp [h1, h2, h5]
  · rw [if_neg (by decide)]
    simp only [Nat.testBit_or, Nat.testBit_shiftLeft, tb_dif, Nat.testBit_and, tb_4095, Nat.testBit_shiftRight, tb_msk]
    by_cases h1 : i < 12
    · have h2 : i < 24 := by omega
      have h3 := hf i h1
      have h4 : ¬ i ≥ 12 := by omega
      simp only [h1, h2, h4, decide_true, decide_false, Bool.true_and, Bool.and_true, Bool.false_and, Bool.or_false, if_true, tb_enc1 f h1, tb_enc2 f h1, tw]
      have h5 : f i = 0 ∨ f i = 1 ∨ f i = 2 := by omega
      rcases h5 with h5 | h5 | h5 <;> by_cases h6 : i < n <;> rcases Bool.eq_false_or_eq_true (t i) with h7 | h7 <;> simp [h5, h6, h7]
    · by_cases h2 : i < 24
      · obtain ⟨j, rfl⟩ : ∃ j, i = 12 + j := ⟨i - 12, by omega⟩
        have hj : j < 12 := by omega
        have h3 := hf j hj
        have h5 : ¬ 12 + j < n := by omega
        have h6 : 12 + j ≥ 12 := by omega
        have h8 : 12 + j - 12 = j := by omega
        simp only [h1, h2, h5, h6, h8, hj, decide_true, decide_false, Bool.true_and, Bool.and_true, Bool.false_and, Bool.and_false, Bool.or_false, Bool.false_or, if_false, tb_enc1 f hj, tb_enc2 f hj, tw]
        have h7 : f j = 0 ∨ f j = 1 ∨ f j = 2 := by omega
        rcases h7 with h7 | h7 | h7 <;> by_cases h9 : j < n <;> rcases Bool.eq_false_or_eq_true (t j) with h10 | h10 <;> simp [h7, h9, h10]
      · have h5 : ¬ i < n := by omega
        have h6 : i ≥ 12 := by omega
        have h7 : ¬ i - 12 < 12 := by omega
        simp [h1, h2, h5, h6, h7]
