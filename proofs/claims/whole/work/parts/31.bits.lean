/-! Bits of ints that are small naturals -/
theorem sh_amt : ∀ k, k < 32 → (I k &&& 31).toBitVec.smod 32 = BitVec.ofNat 32 k := by decide +kernel
theorem I_shl {a k : Nat} (hk : k < 32) : jshl (I a) (I k) = I (a <<< k) := by
  apply Int32.toBitVec_inj.mp
  show (I a).toBitVec <<< ((I k &&& 31).toBitVec.smod 32) = BitVec.ofNat 32 (a <<< k)
  rw [sh_amt k hk]
  show BitVec.ofNat 32 a <<< BitVec.ofNat 32 k = _
  apply BitVec.eq_of_toNat_eq
  rw [BitVec.shiftLeft_eq']
  simp only [BitVec.toNat_shiftLeft, BitVec.toNat_ofNat]
  rw [Nat.mod_eq_of_lt (show k < 2 ^ 32 from Nat.lt_trans hk (by decide)), Nat.shiftLeft_eq, Nat.shiftLeft_eq, Nat.mod_mul_mod]
theorem I_shr {a k : Nat} (ha : a < 2147483648) (hk : k < 32) : jshr (I a) (I k) = I (a >>> k) := by
  apply Int32.toBitVec_inj.mp
  show BitVec.sshiftRight' (I a).toBitVec ((I k &&& 31).toBitVec.smod 32) = BitVec.ofNat 32 (a >>> k)
  rw [sh_amt k hk]
  show BitVec.sshiftRight (BitVec.ofNat 32 a) (BitVec.ofNat 32 k).toNat = _
  rw [BitVec.sshiftRight_eq_of_msb_false]
  · apply BitVec.eq_of_toNat_eq
    simp only [BitVec.toNat_ushiftRight, BitVec.toNat_ofNat]
    have h1 : a >>> k ≤ a := Nat.shiftRight_le _ _
    rw [Nat.mod_eq_of_lt (show k < 2 ^ 32 from Nat.lt_trans hk (by decide)), Nat.mod_eq_of_lt (show a < 2 ^ 32 by omega), Nat.mod_eq_of_lt (show a >>> k < 2 ^ 32 by omega)]
  · rw [BitVec.msb_eq_false_iff_two_mul_lt, BitVec.toNat_ofNat, Nat.mod_eq_of_lt (by omega)]
    omega
theorem tb_dif (a b i : Nat) : (dif a b).testBit i = (a.testBit i && !b.testBit i) := by
  unfold dif
  rw [Nat.testBit_and, Nat.testBit_xor]
  cases a.testBit i <;> cases b.testBit i <;> rfl
/-- the number with just those bits below n that f says -/
def msk (f : Nat → Bool) : Nat → Nat
  | 0 => 0
  | n + 1 => msk f n ||| (if f n then 1 <<< n else 0)
theorem tb_one (n i : Nat) : (1 <<< n).testBit i = decide (i = n) := by
  rw [Nat.one_shiftLeft, Nat.testBit_two_pow]
  simp [eq_comm]
theorem tb_msk (f : Nat → Bool) (n i : Nat) : (msk f n).testBit i = (decide (i < n) && f i) := by
  induction n with
  | zero => simp [msk]
  | succ n ih =>
    unfold msk
    rw [Nat.testBit_or, ih]
    by_cases hi : i = n
    · subst hi
      cases h : f i
      · simp
      · simp [tb_one]
    · have e : decide (i < n + 1) = decide (i < n) := by
        apply decide_eq_decide.mpr
        omega
      rw [e]
      cases h : f n
      · simp
      · rw [if_pos rfl, tb_one]
        simp [hi]
theorem lt_of_tb {a n : Nat} (h : ∀ i, n ≤ i → a.testBit i = false) : a < 2 ^ n := Nat.lt_pow_two_of_testBit a h
theorem msk_lt (f : Nat → Bool) (n : Nat) : msk f n < 2 ^ n := lt_of_tb (fun i hi => by rw [tb_msk]; simp [Nat.not_lt.mpr hi])
theorem msk_congr {f g : Nat → Bool} {n : Nat} (h : ∀ i, i < n → f i = g i) : msk f n = msk g n := by
  apply Nat.eq_of_testBit_eq
  intro i
  rw [tb_msk, tb_msk]
  by_cases hi : i < n
  · rw [h i hi]
  · simp [hi]
theorem msk_inj {f g : Nat → Bool} {n : Nat} (h : msk f n = msk g n) : ∀ i, i < n → f i = g i := by
  intro i hi
  have := congrArg (fun a => a.testBit i) h
  simpa [tb_msk, hi] using this
/-- doors' ways as the class has them: bits 0 .. 11 those at 1, bits 12 .. 23 those at 2 -/
def enc (f : Nat → Nat) : Nat := msk (fun i => if i < 12 then decide (f i = 1) else decide (f (i - 12) = 2)) 24
theorem enc_lt (f : Nat → Nat) : enc f < 16777216 := msk_lt _ 24
theorem tb_enc (f : Nat → Nat) (i : Nat) : (enc f).testBit i = (decide (i < 24) && (if i < 12 then decide (f i = 1) else decide (f (i - 12) = 2))) := tb_msk _ _ _
theorem tb_enc1 (f : Nat → Nat) {i : Nat} (hi : i < 12) : (enc f).testBit i = decide (f i = 1) := by
  rw [tb_enc]
  simp [hi, Nat.lt_trans hi (show 12 < 24 by decide)]
theorem tb_enc2 (f : Nat → Nat) {i : Nat} (hi : i < 12) : (enc f).testBit (12 + i) = decide (f i = 2) := by
  rw [tb_enc]
  have h1 : 12 + i < 24 := by omega
  have h2 : ¬ 12 + i < 12 := by omega
  simp [h1, h2]
theorem enc_congr {f g : Nat → Nat} (h : ∀ i, i < 12 → f i = g i) : enc f = enc g := by
  apply msk_congr
  intro i hi
  by_cases h1 : i < 12
  · simp [h1, h i h1]
  · have h2 : i - 12 < 12 := by omega
    simp [h1, h _ h2]
theorem enc_inj {f g : Nat → Nat} (hf : ∀ i, i < 12 → f i < 3) (hg : ∀ i, i < 12 → g i < 3) (h : enc f = enc g) : ∀ i, i < 12 → f i = g i := by
  intro i hi
  have h1 := tb_enc1 f hi
  have h2 := tb_enc2 f hi
  rw [h, tb_enc1 g hi] at h1
  rw [h, tb_enc2 g hi] at h2
  have h3 := decide_eq_decide.mp h1
  have h4 := decide_eq_decide.mp h2
  have := hf i hi
  have := hg i hi
  omega
theorem and_bit (a n : Nat) : (a &&& 1 <<< n = 0) = (a.testBit n = false) := by
  apply propext
  constructor
  · intro h
    have := congrArg (fun x => x.testBit n) h
    simpa [Nat.testBit_and, tb_one] using this
  · intro h
    apply Nat.eq_of_testBit_eq
    intro i
    rw [Nat.testBit_and, tb_one, Nat.zero_testBit]
    by_cases hi : i = n
    · subst hi; simp [h]
    · simp [hi]
