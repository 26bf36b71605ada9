/-- how many bits below n -/
def pop (a : Nat) : Nat → Nat
  | 0 => 0
  | n + 1 => pop a n + if a.testBit n then 1 else 0
def bcf (a0 : Int32) : Int32 :=
  let v1 := a0 - (jushr a0 1 &&& 1431655765)
  let v2 := (v1 &&& 858993459) + (jushr v1 2 &&& 858993459)
  let v3 := (v2 + jushr v2 4) &&& 252645135
  let v4 := v3 + jushr v3 8
  let v5 := v4 + jushr v4 16
  v5 &&& 63
theorem bc_tab : (List.range 4096).all (fun a => decide (bcf (I a) = I (pop a 12))) = true := by decide +kernel
theorem c_bitCount {h : Hp} {a : Nat} (ha : a < 4096) : P_J6_bitCount_0f7a4 (I a) h = some (I (pop a 12), h) := by
  have h1 := List.all_eq_true.mp bc_tab a (List.mem_range.mpr ha)
  have h2 := of_decide_eq_true h1
  rw [← h2]
  rfl
theorem pop_le (a : Nat) : ∀ n, pop a n ≤ n
  | 0 => Nat.le_refl _
  | n + 1 => by
    have := pop_le a n
    unfold pop
    split <;> omega
theorem pop_congr {a b : Nat} : ∀ n, (∀ i, i < n → a.testBit i = b.testBit i) → pop a n = pop b n
  | 0, _ => rfl
  | n + 1, h => by
    unfold pop
    rw [pop_congr n (fun i hi => h i (by omega)), h n (by omega)]
/-- how many of the first n say yes -/
def cnt (f : Nat → Bool) : Nat → Nat
  | 0 => 0
  | n + 1 => cnt f n + if f n then 1 else 0
theorem cnt_succ (f : Nat → Bool) (n : Nat) : cnt f (n + 1) = cnt f n + if f n then 1 else 0 := rfl
theorem cnt_le (f : Nat → Bool) : ∀ n, cnt f n ≤ n
  | 0 => Nat.le_refl _
  | n + 1 => by
    have := cnt_le f n
    rw [cnt_succ]
    split <;> omega
theorem cnt_congr {f g : Nat → Bool} : ∀ n, (∀ i, i < n → f i = g i) → cnt f n = cnt g n
  | 0, _ => rfl
  | n + 1, h => by rw [cnt_succ, cnt_succ, cnt_congr n (fun i hi => h i (by omega)), h n (by omega)]
theorem cnt_more (f : Nat → Bool) {n : Nat} : ∀ k, (∀ i, n ≤ i → i < n + k → f i = false) → cnt f (n + k) = cnt f n
  | 0, _ => rfl
  | k + 1, h => by
    rw [← Nat.add_assoc, cnt_succ, h (n + k) (by omega) (by omega), cnt_more f k (fun i a b => h i a (by omega))]
    rfl
theorem pop_cnt (a : Nat) : ∀ n, pop a n = cnt (fun i => a.testBit i) n
  | 0 => rfl
  | n + 1 => by
    unfold pop
    rw [cnt_succ, pop_cnt a n]
theorem pop_msk {f : Nat → Bool} {n m : Nat} (h : n ≤ m) : pop (msk f n) m = cnt f n := by
  obtain ⟨k, rfl⟩ : ∃ k, m = n + k := ⟨m - n, by omega⟩
  rw [pop_cnt, cnt_more _ k (fun i a b => by rw [tb_msk]; simp [Nat.not_lt.mpr a])]
  exact cnt_congr n (fun i hi => by rw [tb_msk]; simp [hi])
