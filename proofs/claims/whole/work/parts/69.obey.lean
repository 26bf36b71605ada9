/-! What a statement does -/
def clr (σ : Nat → Nat) : Nat → Nat := fun j => if 4 ≤ j ∧ j < 16 then 0 else if 16 ≤ j ∧ j < 28 then 9 else if 28 ≤ j ∧ j < 40 then 0 else σ j
theorem clr_w {σ : Nat → Nat} {i : Nat} (h : i < 12) : clr σ (4 + i) = 0 := by unfold clr; rw [if_pos (by omega)]
theorem clr_h {σ : Nat → Nat} {i : Nat} (h : i < 12) : clr σ (16 + i) = 9 := by unfold clr; rw [if_neg (by omega), if_pos (by omega)]
theorem clr_s {σ : Nat → Nat} {i : Nat} (h : i < 12) : clr σ (28 + i) = 0 := by unfold clr; rw [if_neg (by omega), if_neg (by omega), if_pos (by omega)]
theorem clr_o {σ : Nat → Nat} {j : Nat} (h : j < 4 ∨ 40 ≤ j) : clr σ j = σ j := by unfold clr; rw [if_neg (by omega), if_neg (by omega), if_neg (by omega)]
def alr (f : Nat → Bool) : Nat → Bool
  | 0 => true
  | n + 1 => alr f n && f n
theorem alr_iff {f : Nat → Bool} : ∀ n, alr f n = true ↔ ∀ x, x < n → f x = true
  | 0 => ⟨fun _ x hx => by omega, fun _ => rfl⟩
  | n + 1 => by
    show (alr f n && f n) = true ↔ _
    rw [Bool.and_eq_true, alr_iff n]
    constructor
    · intro ⟨h1, h2⟩ x hx
      by_cases e : x = n
      · rw [e]; exact h2
      · exact h1 x (by omega)
    · intro h
      exact ⟨fun x hx => h x (by omega), h n (by omega)⟩
theorem alr_no {f : Nat → Bool} {n x : Nat} (hx : x < n) (h : f x = false) : alr f n = false := by
  cases e : alr f n
  · rfl
  · have := (alr_iff n).mp e x hx
    rw [h] at this; cases this
/-- the number, the digits, how many, of a statement of digits alone -/
def oa (t : Nat → Nat) (n i : Nat) : Nat := dva t (i + 1) (dcn t n (i + 1) (hds (t i))) 0
def od (t : Nat → Nat) (i : Nat) : Nat → Nat := fun x => t (i + 1 + x) - 48
def ok1 (t : Nat → Nat) (n i : Nat) : Nat := dcn t n (i + 1) (hds (t i))
def prs (σ : Nat → Nat) (kd A B C : Nat) : Nat → Nat := fun j => if j = 2 then σ 2 + 1 else if j = 40 + 4 * σ 2 then kd else if j = 41 + 4 * σ 2 then A else if j = 42 + 4 * σ 2 then B else if j = 43 + 4 * σ 2 then C else σ j
def rowset (σ : Nat → Nat) (b : Nat) (dg : Nat → Nat) (m : Nat) : Nat → Nat := fun j => if b ≤ j ∧ j < b + m then dg (j - b) else σ j
def fw (σ dg : Nat → Nat) : Nat → Bool := fun x => decide (dg x < σ 1) || decide (dg x = 9)
def fh (σ dg : Nat → Nat) : Nat → Bool := fun x => decide (dg x < σ 1)
def obd (t : Nat → Nat) (n i : Nat) (σ : Nat → Nat) : Option (Nat → Nat) :=
  if t i = 110 then (if 1 ≤ oa t n i ∧ oa t n i ≤ 12 then some (clr (upn σ 0 (oa t n i))) else none)
  else if t i = 107 then (if oa t n i = 2 ∨ oa t n i = 3 then some (clr (upn σ 1 (oa t n i))) else none)
  else if t i = 112 then (if (1 ≤ qA t n i ∧ qA t n i ≤ 12) ∧ (1 ≤ qB t n i ∧ qB t n i ≤ 12) ∧ σ 2 < 7 then some (prs σ (kdn (t (i + 1))) (qA t n i) (qB t n i) (qC t n i)) else none)
  else if t i = 115 then (if 1 ≤ oa t n i ∧ oa t n i ≤ σ 0 then some (upn σ (27 + oa t n i) (1 - σ (27 + oa t n i))) else none)
  else if t i = 119 then (if ok1 t n i = σ 0 ∧ alr (fw σ (od t i)) (σ 0) = true then some (rowset σ 16 (od t i) (σ 0)) else none)
  else (if ok1 t n i = σ 0 ∧ alr (fh σ (od t i)) (σ 0) = true then some (rowset σ 4 (od t i) (σ 0)) else none)
theorem dva_lt {t : Nat → Nat} {n : Nat} : ∀ m k i a, k ≤ dcn t n i m → dva t i k a < (a + 1) * 10 ^ k
  | m, 0, i, a, _ => by
    show a < (a + 1) * 10 ^ 0
    rw [Nat.pow_zero]
    omega
  | 0, k + 1, i, a, h => by
    have : dcn t n i 0 = 0 := rfl
    omega
  | m + 1, k + 1, i, a, h => by
    rw [dcn_succ] at h
    cases hb : isd t n i
    · rw [hb, if_neg Bool.false_ne_true] at h
      omega
    · rw [hb, if_pos rfl] at h
      have hd : t i ≤ 57 := by
        unfold isd at hb
        simp at hb
        omega
      have := dva_lt (t := t) (n := n) m k (i + 1) (a * 10 + (t i - 48)) (by omega)
      rw [dva_succ, Nat.pow_succ]
      have h2 : (a * 10 + (t i - 48) + 1) * 10 ^ k ≤ ((a + 1) * 10) * 10 ^ k := Nat.mul_le_mul_right _ (by omega)
      rw [Nat.mul_comm (10 ^ k) 10, ← Nat.mul_assoc]
      omega
theorem dcn_dg {t : Nat → Nat} {n : Nat} : ∀ m i x, x < dcn t n i m → i + x < n ∧ 48 ≤ t (i + x) ∧ t (i + x) ≤ 57
  | 0, i, x, h => by
    have : dcn t n i 0 = 0 := rfl
    omega
  | m + 1, i, x, h => by
    rw [dcn_succ] at h
    cases hb : isd t n i
    · rw [hb, if_neg Bool.false_ne_true] at h
      omega
    · rw [hb, if_pos rfl] at h
      by_cases h0 : x = 0
      · subst h0
        unfold isd at hb
        simpa using hb
      · have := dcn_dg (t := t) (n := n) m (i + 1) (x - 1) (by omega)
        rw [show i + 1 + (x - 1) = i + x by omega] at this
        exact this
theorem oa_lt {t : Nat → Nat} {n i : Nat} (h : hds (t i) ≤ 2) : oa t n i < 100 := by
  have h1 := dcn_le t n (hds (t i)) (i + 1)
  have h2 := dva_lt (t := t) (n := n) (hds (t i)) _ (i + 1) 0 (Nat.le_refl _)
  have h3 : 10 ^ dcn t n (i + 1) (hds (t i)) ≤ 10 ^ 2 := Nat.pow_le_pow_right (by decide) (by omega)
  unfold oa
  omega
theorem qA_lt (t : Nat → Nat) (n i : Nat) : qA t n i < 100 := by
  have h1 := dcn_le t n 2 (i + 2)
  have h2 := dva_lt (t := t) (n := n) 2 _ (i + 2) 0 (Nat.le_refl _)
  have h3 : 10 ^ dcn t n (i + 2) 2 ≤ 10 ^ 2 := Nat.pow_le_pow_right (by decide) (by omega)
  unfold qA
  omega
theorem qB_lt (t : Nat → Nat) (n i : Nat) : qB t n i < 100 := by
  have h1 := dcn_le t n 2 (q2 t n i)
  have h2 := dva_lt (t := t) (n := n) 2 _ (q2 t n i) 0 (Nat.le_refl _)
  have h3 : 10 ^ dcn t n (q2 t n i) 2 ≤ 10 ^ 2 := Nat.pow_le_pow_right (by decide) (by omega)
  unfold qB
  omega
theorem qC_lt (t : Nat → Nat) (n i : Nat) : qC t n i ≤ 9 := by
  have h1 := dcn_le t n 1 (q3 t n i)
  have h2 := dva_lt (t := t) (n := n) 1 _ (q3 t n i) 0 (Nat.le_refl _)
  have h3 : 10 ^ dcn t n (q3 t n i) 1 ≤ 10 ^ 1 := Nat.pow_le_pow_right (by decide) (by omega)
  unfold qC
  omega
theorem WF_clr {σ : Nat → Nat} (W : WF σ) (j a : Nat) (hj : (j = 0 ∧ 1 ≤ a ∧ a ≤ 12) ∨ (j = 1 ∧ (a = 2 ∨ a = 3))) : WF (clr (upn σ j a)) := by
  have hcol := W.col
  obtain ⟨w0, w1, w2, w3, w4, w5, w6, w7, w8, w9⟩ := W
  have u : ∀ k, k ≠ 0 → k ≠ 1 → upn σ j a k = σ k := fun k h0 h1 => upn_ne (by omega)
  have c0 : clr (upn σ j a) 0 = if j = 0 then a else σ 0 := by
    rw [clr_o (by omega)]
    unfold upn
    by_cases h : j = 0
    · rw [if_pos h.symm, if_pos h]
    · rw [if_neg (fun z => h z.symm), if_neg h]
  have c1 : clr (upn σ j a) 1 = if j = 1 then a else σ 1 := by
    rw [clr_o (by omega)]
    unfold upn
    by_cases h : j = 1
    · rw [if_pos h.symm, if_pos h]
    · rw [if_neg (fun z => h z.symm), if_neg h]
  have c2 : clr (upn σ j a) 2 = σ 2 := by rw [clr_o (by omega), u 2 (by decide) (by decide)]
  have c3 : clr (upn σ j a) 3 = σ 3 := by rw [clr_o (by omega), u 3 (by decide) (by decide)]
  have co : ∀ k, 40 ≤ k → clr (upn σ j a) k = σ k := fun k hk => by rw [clr_o (by omega), u k (by omega) (by omega)]
  refine ⟨?_, ?_, by rw [c2]; exact w2, by rw [c3]; exact w3, fun i hi => ?_, fun i hi => Or.inr (clr_h hi), fun i hi => by rw [clr_s hi]; omega, fun p hp => ?_, fun i hi => ?_, fun i _ hi => ⟨clr_w hi, clr_h hi, clr_s hi⟩⟩
  · rw [c0]
    split <;> omega
  · rw [c1]
    split <;> omega
  · rw [clr_w hi, c1]
    split <;> omega
  · rw [c2] at hp
    rw [co _ (by omega), co _ (by omega), co _ (by omega), co _ (by omega)]
    exact w7 p hp
  · rw [c3] at hi
    rw [co _ (by omega), c2]
    exact w8 i hi
theorem obd_WF {t : Nat → Nat} {n i : Nat} {σ τ : Nat → Nat} (W : WF σ) (hk : t i = 112 → kdn (t (i + 1)) ≤ 5) (h : obd t n i σ = some τ) : WF τ := by
  have hcol := W.col
  unfold obd at h
  by_cases h1 : t i = 110
  · rw [if_pos h1] at h
    by_cases c : 1 ≤ oa t n i ∧ oa t n i ≤ 12
    · rw [if_pos c] at h
      injection h with h
      rw [← h]
      exact WF_clr W 0 _ (Or.inl ⟨rfl, c⟩)
    · rw [if_neg c] at h; cases h
  rw [if_neg h1] at h
  by_cases h2 : t i = 107
  · rw [if_pos h2] at h
    by_cases c : oa t n i = 2 ∨ oa t n i = 3
    · rw [if_pos c] at h
      injection h with h
      rw [← h]
      exact WF_clr W 1 _ (Or.inr ⟨rfl, c⟩)
    · rw [if_neg c] at h; cases h
  rw [if_neg h2] at h
  obtain ⟨w0, w1, w2, w3, w4, w5, w6, w7, w8, w9⟩ := id W
  by_cases h3 : t i = 112
  · rw [if_pos h3] at h
    by_cases c : (1 ≤ qA t n i ∧ qA t n i ≤ 12) ∧ (1 ≤ qB t n i ∧ qB t n i ≤ 12) ∧ σ 2 < 7
    · rw [if_pos c] at h
      injection h with h
      rw [← h]
      have hC := qC_lt t n i
      have lo : ∀ j, j ≠ 2 → (j < 40 ∨ 68 ≤ j) → prs σ (kdn (t (i + 1))) (qA t n i) (qB t n i) (qC t n i) j = σ j := fun j h0 hj => by
        unfold prs
        rw [if_neg h0, if_neg (by omega), if_neg (by omega), if_neg (by omega), if_neg (by omega)]
      have p2 : prs σ (kdn (t (i + 1))) (qA t n i) (qB t n i) (qC t n i) 2 = σ 2 + 1 := if_pos rfl
      refine ⟨by rw [lo 0 (by decide) (by omega)]; exact w0, by rw [lo 1 (by decide) (by omega)]; exact w1, by rw [p2]; omega, by rw [lo 3 (by decide) (by omega)]; exact w3, fun i hi => by rw [lo _ (by omega) (by omega), lo 1 (by decide) (by omega)]; exact w4 i hi, fun i hi => by rw [lo _ (by omega) (by omega), lo 1 (by decide) (by omega)]; exact w5 i hi, fun i hi => by rw [lo _ (by omega) (by omega)]; exact w6 i hi, fun p hp => ?_, fun i hi => ?_, fun i h1 hi => by rw [lo 0 (by decide) (by omega)] at h1; rw [lo _ (by omega) (by omega), lo _ (by omega) (by omega), lo _ (by omega) (by omega)]; exact w9 i h1 hi⟩
      · rw [p2] at hp
        by_cases e : p = σ 2
        · subst e
          have a0 : prs σ (kdn (t (i + 1))) (qA t n i) (qB t n i) (qC t n i) (40 + 4 * σ 2) = kdn (t (i + 1)) := by unfold prs; rw [if_neg (by omega), if_pos rfl]
          have a1 : prs σ (kdn (t (i + 1))) (qA t n i) (qB t n i) (qC t n i) (41 + 4 * σ 2) = qA t n i := by unfold prs; rw [if_neg (by omega), if_neg (by omega), if_pos rfl]
          have a2 : prs σ (kdn (t (i + 1))) (qA t n i) (qB t n i) (qC t n i) (42 + 4 * σ 2) = qB t n i := by unfold prs; rw [if_neg (by omega), if_neg (by omega), if_neg (by omega), if_pos rfl]
          have a3 : prs σ (kdn (t (i + 1))) (qA t n i) (qB t n i) (qC t n i) (43 + 4 * σ 2) = qC t n i := by unfold prs; rw [if_neg (by omega), if_neg (by omega), if_neg (by omega), if_neg (by omega), if_pos rfl]
          rw [a0, a1, a2, a3]
          exact ⟨hk h3, c.1, c.2.1, hC⟩
        · have hp' : p < σ 2 := by omega
          have q : ∀ k, 40 ≤ k → k < 44 → prs σ (kdn (t (i + 1))) (qA t n i) (qB t n i) (qC t n i) (k + 4 * p) = σ (k + 4 * p) := fun k a b => by
            unfold prs
            rw [if_neg (by omega), if_neg (by omega), if_neg (by omega), if_neg (by omega), if_neg (by omega)]
          rw [q 40 (by omega) (by omega), q 41 (by omega) (by omega), q 42 (by omega) (by omega), q 43 (by omega) (by omega)]
          exact w7 p hp'
      · rw [lo 3 (by decide) (by omega)] at hi
        rw [lo _ (by omega) (by omega), p2]
        have := w8 i hi
        omega
    · rw [if_neg c] at h; cases h
  rw [if_neg h3] at h
  by_cases h4 : t i = 115
  · rw [if_pos h4] at h
    by_cases c : 1 ≤ oa t n i ∧ oa t n i ≤ σ 0
    · rw [if_pos c] at h
      injection h with h
      rw [← h]
      have o : ∀ j, j < 28 ∨ 40 ≤ j → upn σ (27 + oa t n i) (1 - σ (27 + oa t n i)) j = σ j := fun j hj => upn_ne (by omega)
      refine ⟨by rw [o 0 (by omega)]; exact w0, by rw [o 1 (by omega)]; exact w1, by rw [o 2 (by omega)]; exact w2, by rw [o 3 (by omega)]; exact w3, fun i hi => by rw [o _ (by omega), o 1 (by omega)]; exact w4 i hi, fun i hi => by rw [o _ (by omega), o 1 (by omega)]; exact w5 i hi, fun j hj => ?_, fun p hp => by rw [o 2 (by omega)] at hp; rw [o _ (by omega), o _ (by omega), o _ (by omega), o _ (by omega)]; exact w7 p hp, fun j hj => by rw [o 3 (by omega)] at hj; rw [o _ (by omega), o 2 (by omega)]; exact w8 j hj, fun j h1 hj => ?_⟩
      · unfold upn
        split
        · omega
        · exact w6 j hj
      · rw [o 0 (by omega)] at h1
        rw [o _ (by omega), o _ (by omega), upn_ne (by omega)]
        exact w9 j h1 hj
    · rw [if_neg c] at h; cases h
  rw [if_neg h4] at h
  by_cases h5 : t i = 119
  · rw [if_pos h5] at h
    by_cases c : ok1 t n i = σ 0 ∧ alr (fw σ (od t i)) (σ 0) = true
    · rw [if_pos c] at h
      injection h with h
      rw [← h]
      have o : ∀ j, j < 16 ∨ 28 ≤ j → rowset σ 16 (od t i) (σ 0) j = σ j := fun j hj => by unfold rowset; rw [if_neg (by omega)]
      refine ⟨by rw [o 0 (by omega)]; exact w0, by rw [o 1 (by omega)]; exact w1, by rw [o 2 (by omega)]; exact w2, by rw [o 3 (by omega)]; exact w3, fun i hi => by rw [o _ (by omega), o 1 (by omega)]; exact w4 i hi, fun j hj => ?_, fun j hj => by rw [o _ (by omega)]; exact w6 j hj, fun p hp => by rw [o 2 (by omega)] at hp; rw [o _ (by omega), o _ (by omega), o _ (by omega), o _ (by omega)]; exact w7 p hp, fun j hj => by rw [o 3 (by omega)] at hj; rw [o _ (by omega), o 2 (by omega)]; exact w8 j hj, fun j h1 hj => ?_⟩
      · rw [o 1 (by omega)]
        unfold rowset
        by_cases e : 16 ≤ 16 + j ∧ 16 + j < 16 + σ 0
        · rw [if_pos e, Nat.add_sub_cancel_left]
          have := (alr_iff _).mp c.2 j (by omega)
          unfold fw at this
          simpa using this
        · rw [if_neg e]
          exact w5 j hj
      · rw [o 0 (by omega)] at h1
        rw [o _ (by omega), o (28 + j) (by omega)]
        unfold rowset
        rw [if_neg (by omega)]
        exact w9 j h1 hj
    · rw [if_neg c] at h; cases h
  rw [if_neg h5] at h
  by_cases c : ok1 t n i = σ 0 ∧ alr (fh σ (od t i)) (σ 0) = true
  · rw [if_pos c] at h
    injection h with h
    rw [← h]
    have o : ∀ j, j < 4 ∨ 16 ≤ j → rowset σ 4 (od t i) (σ 0) j = σ j := fun j hj => by unfold rowset; rw [if_neg (by omega)]
    refine ⟨by rw [o 0 (by omega)]; exact w0, by rw [o 1 (by omega)]; exact w1, by rw [o 2 (by omega)]; exact w2, by rw [o 3 (by omega)]; exact w3, fun j hj => ?_, fun j hj => by rw [o _ (by omega), o 1 (by omega)]; exact w5 j hj, fun j hj => by rw [o _ (by omega)]; exact w6 j hj, fun p hp => by rw [o 2 (by omega)] at hp; rw [o _ (by omega), o _ (by omega), o _ (by omega), o _ (by omega)]; exact w7 p hp, fun j hj => by rw [o 3 (by omega)] at hj; rw [o _ (by omega), o 2 (by omega)]; exact w8 j hj, fun j h1 hj => ?_⟩
    · rw [o 1 (by omega)]
      unfold rowset
      by_cases e : 4 ≤ 4 + j ∧ 4 + j < 4 + σ 0
      · rw [if_pos e, Nat.add_sub_cancel_left]
        have := (alr_iff _).mp c.2 j (by omega)
        unfold fh at this
        simpa using this
      · rw [if_neg e]
        exact w4 j hj
    · rw [o 0 (by omega)] at h1
      rw [o (16 + j) (by omega), o (28 + j) (by omega)]
      unfold rowset
      rw [if_neg (by omega)]
      exact w9 j h1 hj
  · rw [if_neg c] at h; cases h
