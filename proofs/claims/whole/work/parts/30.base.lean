/-! Numbers: ints that are small naturals -/
def I (n : Nat) : Int32 := Int32.ofNat n
theorem I_add (a b : Nat) : I a + I b = I (a + b) := (Int32.ofNat_add a b).symm
theorem I_mul (a b : Nat) : I a * I b = I (a * b) := (Int32.ofNat_mul a b).symm
theorem I_nat {a : Nat} (h : a < 2147483648) : (I a).toNatClampNeg = a := Int32.toNatClampNeg_ofNat_of_lt h
theorem I_int {a : Nat} (h : a < 2147483648) : (I a).toInt = (a : Int) := Int32.toInt_ofNat_of_lt h
theorem I_ltI {a b : Nat} (ha : a < 2147483648) (hb : b < 2147483648) : (I a < I b) = (a < b) := by
  rw [Int32.lt_iff_toInt_lt, I_int ha, I_int hb]
  exact propext Int.ofNat_lt
theorem I_leI {a b : Nat} (ha : a < 2147483648) (hb : b < 2147483648) : (I a ≤ I b) = (a ≤ b) := by
  rw [Int32.le_iff_toInt_le, I_int ha, I_int hb]
  exact propext Int.ofNat_le
theorem I_eqI {a b : Nat} (ha : a < 2147483648) (hb : b < 2147483648) : (I a = I b) = (a = b) := by
  apply propext
  constructor
  · intro h
    have := congrArg Int32.toInt h
    rw [I_int ha, I_int hb] at this
    exact Int.ofNat_inj.mp this
  · intro h
    rw [h]
theorem I_sub {a b : Nat} (h : b ≤ a) : I a - I b = I (a - b) := by
  have e : I a = I (a - b) + I b := by rw [I_add, Nat.sub_add_cancel h]
  rw [e, Int32.add_sub_cancel]
theorem I_addn {a b : Nat} (h : b ≤ a) : I a + -I b = I (a - b) := by rw [← Int32.sub_eq_add_neg, I_sub h]
theorem I_div {a b : Nat} (ha : a < 2147483648) (hb : b < 2147483648) : I a / I b = I (a / b) := (Int32.ofNat_div ha hb).symm
theorem I_rem {a b : Nat} (ha : a < 2147483648) (hb : b < 2147483648) : jrem (I a) (I b) = I (a % b) := by
  unfold jrem
  rw [I_div ha hb, I_mul, I_sub (Nat.div_mul_le_self a b)]
  congr 1
  have := Nat.div_add_mod a b
  rw [Nat.mul_comm] at this
  omega
theorem nz_I {α : Type} {b : Nat} {r : Option α} (h0 : 0 < b) (hb : b < 2147483648) : nz (I b) r = r := by
  unfold nz
  rw [if_neg]
  intro h
  have : I b = I 0 := h
  rw [I_eqI hb (by decide)] at this
  omega
theorem bz_0 {α : Type} {r : Option α} : bz (I 0) r = r := by unfold bz; rw [if_pos (by decide)]
theorem bz_1 {α : Type} {r : Option α} : bz (I 1) r = r := by unfold bz; rw [if_pos (by decide)]
theorem reduceIte {α : Type} {c : Prop} {d : Decidable c} {a b : α} (h : c) : @ite α c d a b = a := if_pos h
theorem reduceIteN {α : Type} {c : Prop} {d : Decidable c} {a b : α} (h : ¬ c) : @ite α c d a b = b := if_neg h
/-- a without b -/
def dif (a b : Nat) : Nat := a &&& (a ^^^ b)
theorem I_and (a b : Nat) : I a &&& I b = I (a &&& b) := by
  apply Int32.toBitVec_inj.mp
  show BitVec.ofNat 32 a &&& BitVec.ofNat 32 b = BitVec.ofNat 32 (a &&& b)
  simp
theorem I_or (a b : Nat) : I a ||| I b = I (a ||| b) := by
  apply Int32.toBitVec_inj.mp
  show BitVec.ofNat 32 a ||| BitVec.ofNat 32 b = BitVec.ofNat 32 (a ||| b)
  simp
theorem I_xor (a b : Nat) : I a ^^^ I b = I (a ^^^ b) := by
  apply Int32.toBitVec_inj.mp
  show BitVec.ofNat 32 a ^^^ BitVec.ofNat 32 b = BitVec.ofNat 32 (a ^^^ b)
  simp
theorem i_dif (x y : Int32) : x &&& (y ^^^ (-1)) = x &&& (x ^^^ y) := by
  apply Int32.toBitVec_inj.mp
  show x.toBitVec &&& (y.toBitVec ^^^ (-1 : Int32).toBitVec) = x.toBitVec &&& (x.toBitVec ^^^ y.toBitVec)
  have e : (-1 : Int32).toBitVec = BitVec.allOnes 32 := by decide
  rw [e]
  apply BitVec.eq_of_getLsbD_eq
  intro i hi
  simp only [BitVec.getLsbD_and, BitVec.getLsbD_xor, BitVec.getLsbD_allOnes, hi, decide_true]
  cases x.toBitVec.getLsbD i <;> cases y.toBitVec.getLsbD i <;> rfl
theorem I_dif (a b : Nat) : I a &&& (I b ^^^ (-1)) = I (dif a b) := by
  rw [i_dif, I_xor, I_and]
  rfl
theorem I_difn (a b : Nat) : I a &&& (I b ^^^ -I 1) = I (dif a b) := I_dif a b
/-! The heap -/
def setI (h : Hp) (p k : Nat) (v : Int32) : Hp := (h.1, upd2 h.2.1 p k v, h.2.2)
theorem setI_1 (h : Hp) (p k : Nat) (v : Int32) : (setI h p k v).1 = h.1 := rfl
theorem setI_R (h : Hp) (p k : Nat) (v : Int32) : (setI h p k v).2.2 = h.2.2 := rfl
theorem setI_at (h : Hp) (p k : Nat) (v : Int32) (q j : Nat) : (setI h p k v).2.1 q j = if q = p ∧ j = k then v else h.2.1 q j := rfl
def RF : Nat → Nat → Option Nat := fun p k => match p, k with
  | 0, 0 => some 1
  | 0, 1 => some 5
  | 0, 2 => some 8
  | 0, 3 => some 11
  | 0, 4 => some 14
  | 0, 5 => some 18
  | 0, 6 => some 22
  | 0, 7 => some 23
  | 1, 0 => some 2
  | 1, 5 => some 3
  | 1, 7 => some 4
  | 5, 3 => some 6
  | 5, 9 => some 7
  | 8, 3 => some 9
  | 8, 9 => some 10
  | 11, 3 => some 12
  | 11, 9 => some 13
  | 14, 0 => some 15
  | 14, 1 => some 16
  | 14, 2 => some 17
  | 18, 0 => some 19
  | 18, 1 => some 20
  | 18, 2 => some 21
  | 24, 0 => some 25
  | 24, 1 => some 26
  | 24, 2 => some 27
  | 24, 3 => some 28
  | 24, 5 => some 29
  | 24, 6 => some 30
  | 24, 10 => some 31
  | 24, 11 => some 32
  | 24, 12 => some 33
  | 24, 15 => some 34
  | _, _ => none
/-- what never changes once all is made: the final references -/
def FX (h : Hp) : Prop := 35 ≤ h.1 ∧ ∀ p k, p < 35 → p ≠ 6 → p ≠ 9 → p ≠ 12 → h.2.2 p k = RF p k
theorem FX_setI {h : Hp} {p k : Nat} {v : Int32} (F : FX h) : FX (setI h p k v) := F
theorem ci_some {α β : Type} (v : β) (h : Hp) (f : β → Hp → Option α) : ci (some (v, h)) f = f v h := rfl
theorem cv_some {α : Type} (h : Hp) (f : Hp → Option α) : cv (some h) f = f h := rfl
theorem lt_eq {α β : Type} (v : β) (f : β → Option α) : lt v f = f v := rfl
theorem nn_none {α : Type} (a : Option α) (b : Nat → Option α) : nn none a b = a := rfl
theorem nn_some {α : Type} (q : Nat) (a : Option α) (b : Nat → Option α) : nn (some q) a b = b q := rfl
theorem gr_eq {α : Type} {h : Hp} {p c k q : Nat} {f : Nat → Option α} (F : FX h) (hp : p < 35) (hn : p ≠ 6 ∧ p ≠ 9 ∧ p ≠ 12) (hs : (SH p).1 = c) (hr : RF p k = some q) : gr h p c k f = f q := by
  unfold gr
  rw [if_pos ⟨Nat.lt_of_lt_of_le hp F.1, hs⟩, F.2 p k hp hn.1 hn.2.1 hn.2.2, hr]
theorem gi_eq {α : Type} {h : Hp} {p c k : Nat} {f : Int32 → Option α} (F : FX h) (hp : p < 35) (hs : (SH p).1 = c) : gi h p c k f = f (h.2.1 p k) := by
  unfold gi
  rw [if_pos ⟨Nat.lt_of_lt_of_le hp F.1, hs⟩]
theorem pi_eq {α : Type} {h : Hp} {p c k : Nat} {v : Int32} {f : Hp → Option α} (F : FX h) (hp : p < 35) (hs : (SH p).1 = c) : pi h p c k v f = f (setI h p k v) := by
  unfold pi
  rw [if_pos ⟨Nat.lt_of_lt_of_le hp F.1, hs⟩]
  rfl
theorem rc_eq {α : Type} {h : Hp} {p c : Nat} {r : Option α} (F : FX h) (hp : p < 35) (hs : (SH p).1 = c) : rc h p c r = r := by
  unfold rc
  rw [if_pos ⟨Nat.lt_of_lt_of_le hp F.1, hs⟩]
theorem I_pos {i : Nat} (hi : i < 2147483648) : ¬ I i < 0 := by
  have : ¬ I i < I 0 := by rw [I_ltI hi (by decide)]; omega
  exact this
theorem al_eq {α : Type} {h : Hp} {p n i : Nat} {f : Int32 → Option α} (F : FX h) (hp : p < 35) (hs : (SH p).1 = 7) (hn : (SH p).2 = n) (hb : n < 2147483648) (hi : i < n) : al h p (I i) f = f (h.2.1 p i) := by
  unfold al
  have hi2 : i < 2147483648 := Nat.lt_trans hi hb
  rw [I_nat hi2, if_pos ⟨Nat.lt_of_lt_of_le hp F.1, hs, I_pos hi2, by rw [hn]; exact hi⟩]
theorem as_eq {α : Type} {h : Hp} {p n i : Nat} {v : Int32} {f : Hp → Option α} (F : FX h) (hp : p < 35) (hs : (SH p).1 = 7) (hn : (SH p).2 = n) (hb : n < 2147483648) (hi : i < n) : as h p (I i) v f = f (setI h p i v) := by
  unfold as
  have hi2 : i < 2147483648 := Nat.lt_trans hi hb
  rw [I_nat hi2, if_pos ⟨Nat.lt_of_lt_of_le hp F.1, hs, I_pos hi2, by rw [hn]; exact hi⟩]
  rfl
theorem ln_eq {α : Type} {h : Hp} {p n : Nat} {f : Int32 → Option α} (F : FX h) (hp : p < 35) (hs : (SH p).1 = 7 ∨ (SH p).1 = 8) (hn : (SH p).2 = n) : ln h p f = f (I n) := by
  unfold ln
  rw [if_pos ⟨Nat.lt_of_lt_of_le hp F.1, hs⟩, hn]
  rfl
theorem gr_0_0 {α : Type} {h : Hp} {f : Nat → Option α} (F : FX h) : gr h 0 5 0 f = f 1 := gr_eq F (by decide) (by decide) rfl rfl
theorem gr_0_1 {α : Type} {h : Hp} {f : Nat → Option α} (F : FX h) : gr h 0 5 1 f = f 5 := gr_eq F (by decide) (by decide) rfl rfl
theorem gr_0_2 {α : Type} {h : Hp} {f : Nat → Option α} (F : FX h) : gr h 0 5 2 f = f 8 := gr_eq F (by decide) (by decide) rfl rfl
theorem gr_0_3 {α : Type} {h : Hp} {f : Nat → Option α} (F : FX h) : gr h 0 5 3 f = f 11 := gr_eq F (by decide) (by decide) rfl rfl
theorem gr_0_4 {α : Type} {h : Hp} {f : Nat → Option α} (F : FX h) : gr h 0 5 4 f = f 14 := gr_eq F (by decide) (by decide) rfl rfl
theorem gr_0_5 {α : Type} {h : Hp} {f : Nat → Option α} (F : FX h) : gr h 0 5 5 f = f 18 := gr_eq F (by decide) (by decide) rfl rfl
theorem gr_0_6 {α : Type} {h : Hp} {f : Nat → Option α} (F : FX h) : gr h 0 5 6 f = f 22 := gr_eq F (by decide) (by decide) rfl rfl
theorem gr_0_7 {α : Type} {h : Hp} {f : Nat → Option α} (F : FX h) : gr h 0 5 7 f = f 23 := gr_eq F (by decide) (by decide) rfl rfl
theorem gr_1_0 {α : Type} {h : Hp} {f : Nat → Option α} (F : FX h) : gr h 1 3 0 f = f 2 := gr_eq F (by decide) (by decide) rfl rfl
theorem gr_1_5 {α : Type} {h : Hp} {f : Nat → Option α} (F : FX h) : gr h 1 3 5 f = f 3 := gr_eq F (by decide) (by decide) rfl rfl
theorem gr_1_7 {α : Type} {h : Hp} {f : Nat → Option α} (F : FX h) : gr h 1 3 7 f = f 4 := gr_eq F (by decide) (by decide) rfl rfl
theorem gr_5_3 {α : Type} {h : Hp} {f : Nat → Option α} (F : FX h) : gr h 5 0 3 f = f 6 := gr_eq F (by decide) (by decide) rfl rfl
theorem gr_5_9 {α : Type} {h : Hp} {f : Nat → Option α} (F : FX h) : gr h 5 0 9 f = f 7 := gr_eq F (by decide) (by decide) rfl rfl
theorem gr_8_3 {α : Type} {h : Hp} {f : Nat → Option α} (F : FX h) : gr h 8 0 3 f = f 9 := gr_eq F (by decide) (by decide) rfl rfl
theorem gr_8_9 {α : Type} {h : Hp} {f : Nat → Option α} (F : FX h) : gr h 8 0 9 f = f 10 := gr_eq F (by decide) (by decide) rfl rfl
theorem gr_11_3 {α : Type} {h : Hp} {f : Nat → Option α} (F : FX h) : gr h 11 0 3 f = f 12 := gr_eq F (by decide) (by decide) rfl rfl
theorem gr_11_9 {α : Type} {h : Hp} {f : Nat → Option α} (F : FX h) : gr h 11 0 9 f = f 13 := gr_eq F (by decide) (by decide) rfl rfl
theorem gr_14_0 {α : Type} {h : Hp} {f : Nat → Option α} (F : FX h) : gr h 14 4 0 f = f 15 := gr_eq F (by decide) (by decide) rfl rfl
theorem gr_14_1 {α : Type} {h : Hp} {f : Nat → Option α} (F : FX h) : gr h 14 4 1 f = f 16 := gr_eq F (by decide) (by decide) rfl rfl
theorem gr_14_2 {α : Type} {h : Hp} {f : Nat → Option α} (F : FX h) : gr h 14 4 2 f = f 17 := gr_eq F (by decide) (by decide) rfl rfl
theorem gr_18_0 {α : Type} {h : Hp} {f : Nat → Option α} (F : FX h) : gr h 18 1 0 f = f 19 := gr_eq F (by decide) (by decide) rfl rfl
theorem gr_18_1 {α : Type} {h : Hp} {f : Nat → Option α} (F : FX h) : gr h 18 1 1 f = f 20 := gr_eq F (by decide) (by decide) rfl rfl
theorem gr_18_2 {α : Type} {h : Hp} {f : Nat → Option α} (F : FX h) : gr h 18 1 2 f = f 21 := gr_eq F (by decide) (by decide) rfl rfl
theorem gr_24_0 {α : Type} {h : Hp} {f : Nat → Option α} (F : FX h) : gr h 24 6 0 f = f 25 := gr_eq F (by decide) (by decide) rfl rfl
theorem gr_24_1 {α : Type} {h : Hp} {f : Nat → Option α} (F : FX h) : gr h 24 6 1 f = f 26 := gr_eq F (by decide) (by decide) rfl rfl
theorem gr_24_2 {α : Type} {h : Hp} {f : Nat → Option α} (F : FX h) : gr h 24 6 2 f = f 27 := gr_eq F (by decide) (by decide) rfl rfl
theorem gr_24_3 {α : Type} {h : Hp} {f : Nat → Option α} (F : FX h) : gr h 24 6 3 f = f 28 := gr_eq F (by decide) (by decide) rfl rfl
theorem gr_24_5 {α : Type} {h : Hp} {f : Nat → Option α} (F : FX h) : gr h 24 6 5 f = f 29 := gr_eq F (by decide) (by decide) rfl rfl
theorem gr_24_6 {α : Type} {h : Hp} {f : Nat → Option α} (F : FX h) : gr h 24 6 6 f = f 30 := gr_eq F (by decide) (by decide) rfl rfl
theorem gr_24_10 {α : Type} {h : Hp} {f : Nat → Option α} (F : FX h) : gr h 24 6 10 f = f 31 := gr_eq F (by decide) (by decide) rfl rfl
theorem gr_24_11 {α : Type} {h : Hp} {f : Nat → Option α} (F : FX h) : gr h 24 6 11 f = f 32 := gr_eq F (by decide) (by decide) rfl rfl
theorem gr_24_12 {α : Type} {h : Hp} {f : Nat → Option α} (F : FX h) : gr h 24 6 12 f = f 33 := gr_eq F (by decide) (by decide) rfl rfl
theorem gr_24_15 {α : Type} {h : Hp} {f : Nat → Option α} (F : FX h) : gr h 24 6 15 f = f 34 := gr_eq F (by decide) (by decide) rfl rfl
theorem al_2 {α : Type} {h : Hp} {f : Int32 → Option α} {i : Nat} (F : FX h) (hi : i < 64) : al h 2 (I i) f = f (h.2.1 2 i) := al_eq F (by decide) rfl (n := 64) rfl (by decide) hi
theorem as_2 {α : Type} {h : Hp} {f : Hp → Option α} {i : Nat} {v : Int32} (F : FX h) (hi : i < 64) : as h 2 (I i) v f = f (setI h 2 i v) := as_eq F (by decide) rfl (n := 64) rfl (by decide) hi
theorem al_3 {α : Type} {h : Hp} {f : Int32 → Option α} {i : Nat} (F : FX h) (hi : i < 3) : al h 3 (I i) f = f (h.2.1 3 i) := al_eq F (by decide) rfl (n := 3) rfl (by decide) hi
theorem as_3 {α : Type} {h : Hp} {f : Hp → Option α} {i : Nat} {v : Int32} (F : FX h) (hi : i < 3) : as h 3 (I i) v f = f (setI h 3 i v) := as_eq F (by decide) rfl (n := 3) rfl (by decide) hi
theorem al_4 {α : Type} {h : Hp} {f : Int32 → Option α} {i : Nat} (F : FX h) (hi : i < 12) : al h 4 (I i) f = f (h.2.1 4 i) := al_eq F (by decide) rfl (n := 12) rfl (by decide) hi
theorem as_4 {α : Type} {h : Hp} {f : Hp → Option α} {i : Nat} {v : Int32} (F : FX h) (hi : i < 12) : as h 4 (I i) v f = f (setI h 4 i v) := as_eq F (by decide) rfl (n := 12) rfl (by decide) hi
theorem al_7 {α : Type} {h : Hp} {f : Int32 → Option α} {i : Nat} (F : FX h) (hi : i < 10) : al h 7 (I i) f = f (h.2.1 7 i) := al_eq F (by decide) rfl (n := 10) rfl (by decide) hi
theorem as_7 {α : Type} {h : Hp} {f : Hp → Option α} {i : Nat} {v : Int32} (F : FX h) (hi : i < 10) : as h 7 (I i) v f = f (setI h 7 i v) := as_eq F (by decide) rfl (n := 10) rfl (by decide) hi
theorem al_10 {α : Type} {h : Hp} {f : Int32 → Option α} {i : Nat} (F : FX h) (hi : i < 10) : al h 10 (I i) f = f (h.2.1 10 i) := al_eq F (by decide) rfl (n := 10) rfl (by decide) hi
theorem as_10 {α : Type} {h : Hp} {f : Hp → Option α} {i : Nat} {v : Int32} (F : FX h) (hi : i < 10) : as h 10 (I i) v f = f (setI h 10 i v) := as_eq F (by decide) rfl (n := 10) rfl (by decide) hi
theorem al_13 {α : Type} {h : Hp} {f : Int32 → Option α} {i : Nat} (F : FX h) (hi : i < 10) : al h 13 (I i) f = f (h.2.1 13 i) := al_eq F (by decide) rfl (n := 10) rfl (by decide) hi
theorem as_13 {α : Type} {h : Hp} {f : Hp → Option α} {i : Nat} {v : Int32} (F : FX h) (hi : i < 10) : as h 13 (I i) v f = f (setI h 13 i v) := as_eq F (by decide) rfl (n := 10) rfl (by decide) hi
theorem al_15 {α : Type} {h : Hp} {f : Int32 → Option α} {i : Nat} (F : FX h) (hi : i < 2187) : al h 15 (I i) f = f (h.2.1 15 i) := al_eq F (by decide) rfl (n := 2187) rfl (by decide) hi
theorem as_15 {α : Type} {h : Hp} {f : Hp → Option α} {i : Nat} {v : Int32} (F : FX h) (hi : i < 2187) : as h 15 (I i) v f = f (setI h 15 i v) := as_eq F (by decide) rfl (n := 2187) rfl (by decide) hi
theorem al_16 {α : Type} {h : Hp} {f : Int32 → Option α} {i : Nat} (F : FX h) (hi : i < 7) : al h 16 (I i) f = f (h.2.1 16 i) := al_eq F (by decide) rfl (n := 7) rfl (by decide) hi
theorem as_16 {α : Type} {h : Hp} {f : Hp → Option α} {i : Nat} {v : Int32} (F : FX h) (hi : i < 7) : as h 16 (I i) v f = f (setI h 16 i v) := as_eq F (by decide) rfl (n := 7) rfl (by decide) hi
theorem al_17 {α : Type} {h : Hp} {f : Int32 → Option α} {i : Nat} (F : FX h) (hi : i < 13) : al h 17 (I i) f = f (h.2.1 17 i) := al_eq F (by decide) rfl (n := 13) rfl (by decide) hi
theorem as_17 {α : Type} {h : Hp} {f : Hp → Option α} {i : Nat} {v : Int32} (F : FX h) (hi : i < 13) : as h 17 (I i) v f = f (setI h 17 i v) := as_eq F (by decide) rfl (n := 13) rfl (by decide) hi
theorem al_19 {α : Type} {h : Hp} {f : Int32 → Option α} {i : Nat} (F : FX h) (hi : i < 2187) : al h 19 (I i) f = f (h.2.1 19 i) := al_eq F (by decide) rfl (n := 2187) rfl (by decide) hi
theorem as_19 {α : Type} {h : Hp} {f : Hp → Option α} {i : Nat} {v : Int32} (F : FX h) (hi : i < 2187) : as h 19 (I i) v f = f (setI h 19 i v) := as_eq F (by decide) rfl (n := 2187) rfl (by decide) hi
theorem al_20 {α : Type} {h : Hp} {f : Int32 → Option α} {i : Nat} (F : FX h) (hi : i < 2187) : al h 20 (I i) f = f (h.2.1 20 i) := al_eq F (by decide) rfl (n := 2187) rfl (by decide) hi
theorem as_20 {α : Type} {h : Hp} {f : Hp → Option α} {i : Nat} {v : Int32} (F : FX h) (hi : i < 2187) : as h 20 (I i) v f = f (setI h 20 i v) := as_eq F (by decide) rfl (n := 2187) rfl (by decide) hi
theorem al_21 {α : Type} {h : Hp} {f : Int32 → Option α} {i : Nat} (F : FX h) (hi : i < 2187) : al h 21 (I i) f = f (h.2.1 21 i) := al_eq F (by decide) rfl (n := 2187) rfl (by decide) hi
theorem as_21 {α : Type} {h : Hp} {f : Hp → Option α} {i : Nat} {v : Int32} (F : FX h) (hi : i < 2187) : as h 21 (I i) v f = f (setI h 21 i v) := as_eq F (by decide) rfl (n := 2187) rfl (by decide) hi
theorem al_22 {α : Type} {h : Hp} {f : Int32 → Option α} {i : Nat} (F : FX h) (hi : i < 13) : al h 22 (I i) f = f (h.2.1 22 i) := al_eq F (by decide) rfl (n := 13) rfl (by decide) hi
theorem as_22 {α : Type} {h : Hp} {f : Hp → Option α} {i : Nat} {v : Int32} (F : FX h) (hi : i < 13) : as h 22 (I i) v f = f (setI h 22 i v) := as_eq F (by decide) rfl (n := 13) rfl (by decide) hi
theorem al_23 {α : Type} {h : Hp} {f : Int32 → Option α} {i : Nat} (F : FX h) (hi : i < 7) : al h 23 (I i) f = f (h.2.1 23 i) := al_eq F (by decide) rfl (n := 7) rfl (by decide) hi
theorem as_23 {α : Type} {h : Hp} {f : Hp → Option α} {i : Nat} {v : Int32} (F : FX h) (hi : i < 7) : as h 23 (I i) v f = f (setI h 23 i v) := as_eq F (by decide) rfl (n := 7) rfl (by decide) hi
theorem al_25 {α : Type} {h : Hp} {f : Int32 → Option α} {i : Nat} (F : FX h) (hi : i < 7) : al h 25 (I i) f = f (h.2.1 25 i) := al_eq F (by decide) rfl (n := 7) rfl (by decide) hi
theorem as_25 {α : Type} {h : Hp} {f : Hp → Option α} {i : Nat} {v : Int32} (F : FX h) (hi : i < 7) : as h 25 (I i) v f = f (setI h 25 i v) := as_eq F (by decide) rfl (n := 7) rfl (by decide) hi
theorem al_26 {α : Type} {h : Hp} {f : Int32 → Option α} {i : Nat} (F : FX h) (hi : i < 79) : al h 26 (I i) f = f (h.2.1 26 i) := al_eq F (by decide) rfl (n := 79) rfl (by decide) hi
theorem as_26 {α : Type} {h : Hp} {f : Hp → Option α} {i : Nat} {v : Int32} (F : FX h) (hi : i < 79) : as h 26 (I i) v f = f (setI h 26 i v) := as_eq F (by decide) rfl (n := 79) rfl (by decide) hi
theorem al_27 {α : Type} {h : Hp} {f : Int32 → Option α} {i : Nat} (F : FX h) (hi : i < 79) : al h 27 (I i) f = f (h.2.1 27 i) := al_eq F (by decide) rfl (n := 79) rfl (by decide) hi
theorem as_27 {α : Type} {h : Hp} {f : Hp → Option α} {i : Nat} {v : Int32} (F : FX h) (hi : i < 79) : as h 27 (I i) v f = f (setI h 27 i v) := as_eq F (by decide) rfl (n := 79) rfl (by decide) hi
theorem al_28 {α : Type} {h : Hp} {f : Int32 → Option α} {i : Nat} (F : FX h) (hi : i < 79) : al h 28 (I i) f = f (h.2.1 28 i) := al_eq F (by decide) rfl (n := 79) rfl (by decide) hi
theorem as_28 {α : Type} {h : Hp} {f : Hp → Option α} {i : Nat} {v : Int32} (F : FX h) (hi : i < 79) : as h 28 (I i) v f = f (setI h 28 i v) := as_eq F (by decide) rfl (n := 79) rfl (by decide) hi
theorem al_29 {α : Type} {h : Hp} {f : Int32 → Option α} {i : Nat} (F : FX h) (hi : i < 64) : al h 29 (I i) f = f (h.2.1 29 i) := al_eq F (by decide) rfl (n := 64) rfl (by decide) hi
theorem as_29 {α : Type} {h : Hp} {f : Hp → Option α} {i : Nat} {v : Int32} (F : FX h) (hi : i < 64) : as h 29 (I i) v f = f (setI h 29 i v) := as_eq F (by decide) rfl (n := 64) rfl (by decide) hi
theorem al_30 {α : Type} {h : Hp} {f : Int32 → Option α} {i : Nat} (F : FX h) (hi : i < 12) : al h 30 (I i) f = f (h.2.1 30 i) := al_eq F (by decide) rfl (n := 12) rfl (by decide) hi
theorem as_30 {α : Type} {h : Hp} {f : Hp → Option α} {i : Nat} {v : Int32} (F : FX h) (hi : i < 12) : as h 30 (I i) v f = f (setI h 30 i v) := as_eq F (by decide) rfl (n := 12) rfl (by decide) hi
theorem al_31 {α : Type} {h : Hp} {f : Int32 → Option α} {i : Nat} (F : FX h) (hi : i < 13) : al h 31 (I i) f = f (h.2.1 31 i) := al_eq F (by decide) rfl (n := 13) rfl (by decide) hi
theorem as_31 {α : Type} {h : Hp} {f : Hp → Option α} {i : Nat} {v : Int32} (F : FX h) (hi : i < 13) : as h 31 (I i) v f = f (setI h 31 i v) := as_eq F (by decide) rfl (n := 13) rfl (by decide) hi
theorem al_32 {α : Type} {h : Hp} {f : Int32 → Option α} {i : Nat} (F : FX h) (hi : i < 13) : al h 32 (I i) f = f (h.2.1 32 i) := al_eq F (by decide) rfl (n := 13) rfl (by decide) hi
theorem as_32 {α : Type} {h : Hp} {f : Hp → Option α} {i : Nat} {v : Int32} (F : FX h) (hi : i < 13) : as h 32 (I i) v f = f (setI h 32 i v) := as_eq F (by decide) rfl (n := 13) rfl (by decide) hi
theorem al_33 {α : Type} {h : Hp} {f : Int32 → Option α} {i : Nat} (F : FX h) (hi : i < 12) : al h 33 (I i) f = f (h.2.1 33 i) := al_eq F (by decide) rfl (n := 12) rfl (by decide) hi
theorem as_33 {α : Type} {h : Hp} {f : Hp → Option α} {i : Nat} {v : Int32} (F : FX h) (hi : i < 12) : as h 33 (I i) v f = f (setI h 33 i v) := as_eq F (by decide) rfl (n := 12) rfl (by decide) hi
theorem al_34 {α : Type} {h : Hp} {f : Int32 → Option α} {i : Nat} (F : FX h) (hi : i < 2187) : al h 34 (I i) f = f (h.2.1 34 i) := al_eq F (by decide) rfl (n := 2187) rfl (by decide) hi
theorem as_34 {α : Type} {h : Hp} {f : Hp → Option α} {i : Nat} {v : Int32} (F : FX h) (hi : i < 2187) : as h 34 (I i) v f = f (setI h 34 i v) := as_eq F (by decide) rfl (n := 2187) rfl (by decide) hi
theorem ln_2 {α : Type} {h : Hp} {f : Int32 → Option α} (F : FX h) : ln h 2 f = f (I 64) := ln_eq F (by decide) (by decide) rfl
theorem ln_3 {α : Type} {h : Hp} {f : Int32 → Option α} (F : FX h) : ln h 3 f = f (I 3) := ln_eq F (by decide) (by decide) rfl
theorem ln_4 {α : Type} {h : Hp} {f : Int32 → Option α} (F : FX h) : ln h 4 f = f (I 12) := ln_eq F (by decide) (by decide) rfl
theorem ln_7 {α : Type} {h : Hp} {f : Int32 → Option α} (F : FX h) : ln h 7 f = f (I 10) := ln_eq F (by decide) (by decide) rfl
theorem ln_10 {α : Type} {h : Hp} {f : Int32 → Option α} (F : FX h) : ln h 10 f = f (I 10) := ln_eq F (by decide) (by decide) rfl
theorem ln_13 {α : Type} {h : Hp} {f : Int32 → Option α} (F : FX h) : ln h 13 f = f (I 10) := ln_eq F (by decide) (by decide) rfl
theorem ln_15 {α : Type} {h : Hp} {f : Int32 → Option α} (F : FX h) : ln h 15 f = f (I 2187) := ln_eq F (by decide) (by decide) rfl
theorem ln_16 {α : Type} {h : Hp} {f : Int32 → Option α} (F : FX h) : ln h 16 f = f (I 7) := ln_eq F (by decide) (by decide) rfl
theorem ln_17 {α : Type} {h : Hp} {f : Int32 → Option α} (F : FX h) : ln h 17 f = f (I 13) := ln_eq F (by decide) (by decide) rfl
theorem ln_19 {α : Type} {h : Hp} {f : Int32 → Option α} (F : FX h) : ln h 19 f = f (I 2187) := ln_eq F (by decide) (by decide) rfl
theorem ln_20 {α : Type} {h : Hp} {f : Int32 → Option α} (F : FX h) : ln h 20 f = f (I 2187) := ln_eq F (by decide) (by decide) rfl
theorem ln_21 {α : Type} {h : Hp} {f : Int32 → Option α} (F : FX h) : ln h 21 f = f (I 2187) := ln_eq F (by decide) (by decide) rfl
theorem ln_22 {α : Type} {h : Hp} {f : Int32 → Option α} (F : FX h) : ln h 22 f = f (I 13) := ln_eq F (by decide) (by decide) rfl
theorem ln_23 {α : Type} {h : Hp} {f : Int32 → Option α} (F : FX h) : ln h 23 f = f (I 7) := ln_eq F (by decide) (by decide) rfl
theorem ln_25 {α : Type} {h : Hp} {f : Int32 → Option α} (F : FX h) : ln h 25 f = f (I 7) := ln_eq F (by decide) (by decide) rfl
theorem ln_26 {α : Type} {h : Hp} {f : Int32 → Option α} (F : FX h) : ln h 26 f = f (I 79) := ln_eq F (by decide) (by decide) rfl
theorem ln_27 {α : Type} {h : Hp} {f : Int32 → Option α} (F : FX h) : ln h 27 f = f (I 79) := ln_eq F (by decide) (by decide) rfl
theorem ln_28 {α : Type} {h : Hp} {f : Int32 → Option α} (F : FX h) : ln h 28 f = f (I 79) := ln_eq F (by decide) (by decide) rfl
theorem ln_29 {α : Type} {h : Hp} {f : Int32 → Option α} (F : FX h) : ln h 29 f = f (I 64) := ln_eq F (by decide) (by decide) rfl
theorem ln_30 {α : Type} {h : Hp} {f : Int32 → Option α} (F : FX h) : ln h 30 f = f (I 12) := ln_eq F (by decide) (by decide) rfl
theorem ln_31 {α : Type} {h : Hp} {f : Int32 → Option α} (F : FX h) : ln h 31 f = f (I 13) := ln_eq F (by decide) (by decide) rfl
theorem ln_32 {α : Type} {h : Hp} {f : Int32 → Option α} (F : FX h) : ln h 32 f = f (I 13) := ln_eq F (by decide) (by decide) rfl
theorem ln_33 {α : Type} {h : Hp} {f : Int32 → Option α} (F : FX h) : ln h 33 f = f (I 12) := ln_eq F (by decide) (by decide) rfl
theorem ln_34 {α : Type} {h : Hp} {f : Int32 → Option α} (F : FX h) : ln h 34 f = f (I 2187) := ln_eq F (by decide) (by decide) rfl
theorem ln_6 {α : Type} {h : Hp} {f : Int32 → Option α} (F : FX h) : ln h 6 f = f (I 7) := ln_eq F (by decide) (by decide) rfl
theorem ln_9 {α : Type} {h : Hp} {f : Int32 → Option α} (F : FX h) : ln h 9 f = f (I 7) := ln_eq F (by decide) (by decide) rfl
theorem ln_12 {α : Type} {h : Hp} {f : Int32 → Option α} (F : FX h) : ln h 12 f = f (I 7) := ln_eq F (by decide) (by decide) rfl
theorem gi_0 {α : Type} {h : Hp} {f : Int32 → Option α} {k : Nat} (F : FX h) : gi h 0 5 k f = f (h.2.1 0 k) := gi_eq F (by decide) rfl
theorem pi_0 {α : Type} {h : Hp} {f : Hp → Option α} {k : Nat} {v : Int32} (F : FX h) : pi h 0 5 k v f = f (setI h 0 k v) := pi_eq F (by decide) rfl
theorem rc_0 {α : Type} {h : Hp} {r : Option α} (F : FX h) : rc h 0 5 r = r := rc_eq F (by decide) rfl
theorem gi_1 {α : Type} {h : Hp} {f : Int32 → Option α} {k : Nat} (F : FX h) : gi h 1 3 k f = f (h.2.1 1 k) := gi_eq F (by decide) rfl
theorem pi_1 {α : Type} {h : Hp} {f : Hp → Option α} {k : Nat} {v : Int32} (F : FX h) : pi h 1 3 k v f = f (setI h 1 k v) := pi_eq F (by decide) rfl
theorem rc_1 {α : Type} {h : Hp} {r : Option α} (F : FX h) : rc h 1 3 r = r := rc_eq F (by decide) rfl
theorem gi_5 {α : Type} {h : Hp} {f : Int32 → Option α} {k : Nat} (F : FX h) : gi h 5 0 k f = f (h.2.1 5 k) := gi_eq F (by decide) rfl
theorem pi_5 {α : Type} {h : Hp} {f : Hp → Option α} {k : Nat} {v : Int32} (F : FX h) : pi h 5 0 k v f = f (setI h 5 k v) := pi_eq F (by decide) rfl
theorem rc_5 {α : Type} {h : Hp} {r : Option α} (F : FX h) : rc h 5 0 r = r := rc_eq F (by decide) rfl
theorem gi_8 {α : Type} {h : Hp} {f : Int32 → Option α} {k : Nat} (F : FX h) : gi h 8 0 k f = f (h.2.1 8 k) := gi_eq F (by decide) rfl
theorem pi_8 {α : Type} {h : Hp} {f : Hp → Option α} {k : Nat} {v : Int32} (F : FX h) : pi h 8 0 k v f = f (setI h 8 k v) := pi_eq F (by decide) rfl
theorem rc_8 {α : Type} {h : Hp} {r : Option α} (F : FX h) : rc h 8 0 r = r := rc_eq F (by decide) rfl
theorem gi_11 {α : Type} {h : Hp} {f : Int32 → Option α} {k : Nat} (F : FX h) : gi h 11 0 k f = f (h.2.1 11 k) := gi_eq F (by decide) rfl
theorem pi_11 {α : Type} {h : Hp} {f : Hp → Option α} {k : Nat} {v : Int32} (F : FX h) : pi h 11 0 k v f = f (setI h 11 k v) := pi_eq F (by decide) rfl
theorem rc_11 {α : Type} {h : Hp} {r : Option α} (F : FX h) : rc h 11 0 r = r := rc_eq F (by decide) rfl
theorem gi_14 {α : Type} {h : Hp} {f : Int32 → Option α} {k : Nat} (F : FX h) : gi h 14 4 k f = f (h.2.1 14 k) := gi_eq F (by decide) rfl
theorem pi_14 {α : Type} {h : Hp} {f : Hp → Option α} {k : Nat} {v : Int32} (F : FX h) : pi h 14 4 k v f = f (setI h 14 k v) := pi_eq F (by decide) rfl
theorem rc_14 {α : Type} {h : Hp} {r : Option α} (F : FX h) : rc h 14 4 r = r := rc_eq F (by decide) rfl
theorem gi_18 {α : Type} {h : Hp} {f : Int32 → Option α} {k : Nat} (F : FX h) : gi h 18 1 k f = f (h.2.1 18 k) := gi_eq F (by decide) rfl
theorem pi_18 {α : Type} {h : Hp} {f : Hp → Option α} {k : Nat} {v : Int32} (F : FX h) : pi h 18 1 k v f = f (setI h 18 k v) := pi_eq F (by decide) rfl
theorem rc_18 {α : Type} {h : Hp} {r : Option α} (F : FX h) : rc h 18 1 r = r := rc_eq F (by decide) rfl
theorem gi_24 {α : Type} {h : Hp} {f : Int32 → Option α} {k : Nat} (F : FX h) : gi h 24 6 k f = f (h.2.1 24 k) := gi_eq F (by decide) rfl
theorem pi_24 {α : Type} {h : Hp} {f : Hp → Option α} {k : Nat} {v : Int32} (F : FX h) : pi h 24 6 k v f = f (setI h 24 k v) := pi_eq F (by decide) rfl
theorem rc_24 {α : Type} {h : Hp} {r : Option α} (F : FX h) : rc h 24 6 r = r := rc_eq F (by decide) rfl
theorem l4095 : (4095 : Int32) = I 4095 := rfl
theorem l32 : (32 : Int32) = I 32 := rfl
theorem l63 : (63 : Int32) = I 63 := rfl
theorem l0 : (0 : Int32) = I 0 := rfl
theorem l1 : (1 : Int32) = I 1 := rfl
theorem l2 : (2 : Int32) = I 2 := rfl
theorem l3 : (3 : Int32) = I 3 := rfl
theorem l4 : (4 : Int32) = I 4 := rfl
theorem l5 : (5 : Int32) = I 5 := rfl
theorem l6 : (6 : Int32) = I 6 := rfl
theorem l7 : (7 : Int32) = I 7 := rfl
theorem l8 : (8 : Int32) = I 8 := rfl
theorem l9 : (9 : Int32) = I 9 := rfl
theorem l10 : (10 : Int32) = I 10 := rfl
theorem l11 : (11 : Int32) = I 11 := rfl
theorem l12 : (12 : Int32) = I 12 := rfl
theorem l16 : (16 : Int32) = I 16 := rfl
theorem l24 : (24 : Int32) = I 24 := rfl
theorem l28 : (28 : Int32) = I 28 := rfl
theorem l31 : (31 : Int32) = I 31 := rfl
theorem l40 : (40 : Int32) = I 40 := rfl
theorem l48 : (48 : Int32) = I 48 := rfl
theorem l57 : (57 : Int32) = I 57 := rfl
theorem l64 : (64 : Int32) = I 64 := rfl
theorem l68 : (68 : Int32) = I 68 := rfl
theorem l78 : (78 : Int32) = I 78 := rfl
theorem l79 : (79 : Int32) = I 79 := rfl
theorem l99 : (99 : Int32) = I 99 := rfl
theorem l255 : (255 : Int32) = I 255 := rfl
theorem l2000 : (2000 : Int32) = I 2000 := rfl
theorem l2187 : (2187 : Int32) = I 2187 := rfl
theorem l1000000000 : (1000000000 : Int32) = I 1000000000 := rfl
