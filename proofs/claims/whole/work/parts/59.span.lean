/-! What vectors bring about modulo 2 or 3: spans, and how many sums meet an end -/
def vz (c : Nat) (w : Nat → Nat) : Prop := ∀ i, i < 12 → w i % c = 0
def va (w : Nat → Nat) (a : Nat) (g : Nat → Nat) : Nat → Nat := fun i => w i + a * g i
def Sq (c : Nat) (P : Nat → Nat → Nat) : Nat → (Nat → Nat) → Prop
  | 0, w => vz c w
  | m + 1, w => ∃ a, Sq c P m (va w a (P (11 - m)))
theorem add_z {c w x a : Nat} (hx : x % c = 0) : (w + a * x) % c = w % c := by
  rw [Nat.add_mod, Nat.mul_mod, hx, Nat.mul_zero, Nat.zero_mod, Nat.add_zero, Nat.mod_mod]
theorem add_z2 {c w x : Nat} (hx : x % c = 0) : (w + x) % c = w % c := by
  rw [Nat.add_mod, hx, Nat.add_zero, Nat.mod_mod]
theorem Sq_congr {c : Nat} {P : Nat → Nat → Nat} : ∀ {m : Nat} {w w' : Nat → Nat}, (∀ i, i < 12 → w i % c = w' i % c) → Sq c P m w → Sq c P m w'
  | 0, w, w', h, s => fun i hi => by rw [← h i hi]; exact s i hi
  | m + 1, w, w', h, ⟨a, s⟩ => ⟨a, Sq_congr (fun i hi => by unfold va; rw [Nat.add_mod, h i hi, ← Nat.add_mod]) s⟩
theorem Sq_eq {c : Nat} {P : Nat → Nat → Nat} {m : Nat} {w w' : Nat → Nat} (h : ∀ i, w i = w' i) (s : Sq c P m w) : Sq c P m w' := Sq_congr (fun i _ => by rw [h i]) s
theorem Sq_zero {c : Nat} {P : Nat → Nat → Nat} : ∀ m, Sq c P m (fun _ => 0)
  | 0 => fun i _ => Nat.zero_mod c
  | m + 1 => ⟨0, Sq_eq (fun i => by unfold va; simp) (Sq_zero m)⟩
theorem Sq_add {c : Nat} {P : Nat → Nat → Nat} : ∀ {m : Nat} {w w' : Nat → Nat}, Sq c P m w → Sq c P m w' → Sq c P m (fun i => w i + w' i)
  | 0, w, w', h, h' => fun i hi => by show (w i + w' i) % c = 0; rw [add_z2 (h' i hi)]; exact h i hi
  | m + 1, w, w', ⟨a, h⟩, ⟨a', h'⟩ => ⟨a + a', Sq_eq (fun i => by
    show w i + a * P (11 - m) i + (w' i + a' * P (11 - m) i) = w i + w' i + (a + a') * P (11 - m) i
    rw [Nat.add_mul]
    omega) (Sq_add h h')⟩
theorem Sq_mul {c : Nat} {P : Nat → Nat → Nat} {m : Nat} {w : Nat → Nat} (h : Sq c P m w) : ∀ b, Sq c P m (fun i => b * w i)
  | 0 => Sq_eq (fun i => by simp) (Sq_zero m)
  | b + 1 => Sq_eq (fun i => by rw [Nat.succ_mul]) (Sq_add (Sq_mul h b) h)
theorem Sq_va {c : Nat} {P : Nat → Nat → Nat} {m : Nat} {w v : Nat → Nat} (h : Sq c P m w) (hv : Sq c P m v) (a : Nat) : Sq c P m (va w a v) := Sq_add h (Sq_mul hv a)
/-- taken back again -/
theorem Sq_back {c : Nat} {P : Nat → Nat → Nat} {m : Nat} {w v : Nat → Nat} {a : Nat} (hc : 0 < c) (h : Sq c P m (va w a v)) (hv : Sq c P m v) : Sq c P m w := by
  refine Sq_congr (fun i _ => ?_) (Sq_va h hv ((c - 1) * a))
  unfold va
  have : w i + a * v i + (c - 1) * a * v i = w i + c * (a * v i) := by
    obtain ⟨k, rfl⟩ : ∃ k, c = k + 1 := ⟨c - 1, by omega⟩
    have h1 : k * a * v i = k * (a * v i) := Nat.mul_assoc _ _ _
    have h2 : (k + 1) * (a * v i) = k * (a * v i) + a * v i := Nat.succ_mul _ _
    rw [Nat.add_sub_cancel, h1, h2]
    omega
  rw [this, Nat.add_mul_mod_self_left]
theorem Sq_mem {c : Nat} {P : Nat → Nat → Nat} (hc : 0 < c) {i : Nat} : ∀ {m : Nat}, 12 ≤ i + m → i < 12 → Sq c P m (P i)
  | 0, h, hi => by omega
  | m + 1, h, hi => by
    by_cases hq : 11 - m = i
    · refine ⟨c - 1, Sq_congr (fun j _ => ?_) (Sq_zero m)⟩
      unfold va
      rw [hq]
      have : P i j + (c - 1) * P i j = c * P i j := by
        obtain ⟨k, rfl⟩ : ∃ k, c = k + 1 := ⟨c - 1, by omega⟩
        rw [Nat.add_sub_cancel, Nat.succ_mul]
        omega
      rw [this, Nat.mul_mod_right, Nat.zero_mod]
    · exact ⟨0, Sq_eq (fun j => by unfold va; simp) (Sq_mem hc (m := m) (by omega) hi)⟩
theorem mul_z {c a b : Nat} (hc : c = 2 ∨ c = 3) (h : a * b % c = 0) : a % c = 0 ∨ b % c = 0 := by
  rw [Nat.mul_mod] at h
  rcases hc with rfl | rfl
  · have h1 : a % 2 = 0 ∨ a % 2 = 1 := by omega
    have h2 : b % 2 = 0 ∨ b % 2 = 1 := by omega
    rcases h1 with h1 | h1 <;> rcases h2 with h2 | h2 <;> simp [h1, h2] at h ⊢
  · have h1 : a % 3 = 0 ∨ a % 3 = 1 ∨ a % 3 = 2 := by omega
    have h2 : b % 3 = 0 ∨ b % 3 = 1 ∨ b % 3 = 2 := by omega
    rcases h1 with h1 | h1 | h1 <;> rcases h2 with h2 | h2 | h2 <;> simp [h1, h2] at h ⊢
def Ech (c : Nat) (P : Nat → Nat → Nat) : Prop := (∀ q j, j < q → P q j = 0) ∧ ∀ q, (∀ j, P q j = 0) ∨ P q q % c ≠ 0
theorem Sq_low {c : Nat} {P : Nat → Nat → Nat} (E : Ech c P) : ∀ {m : Nat} {w : Nat → Nat}, m ≤ 12 → Sq c P m w → ∀ j, j < 12 - m → w j % c = 0
  | 0, w, _, s, j, hj => s j hj
  | m + 1, w, hm, ⟨a, s⟩, j, hj => by
    have h1 := Sq_low E (by omega) s j (by omega)
    unfold va at h1
    rw [E.1 (11 - m) j (by omega), Nat.mul_zero, Nat.add_zero] at h1
    exact h1
theorem Sq_skip {c : Nat} {P : Nat → Nat → Nat} (hc : c = 2 ∨ c = 3) (E : Ech c P) {m : Nat} : ∀ (k : Nat) {w : Nat → Nat}, k + m ≤ 12 → (∀ j, j < 12 - m → w j % c = 0) → Sq c P (k + m) w → Sq c P m w
  | 0, w, _, _, s => by rw [Nat.zero_add] at s; exact s
  | k + 1, w, hk, hz, s => by
    rw [show k + 1 + m = (k + m) + 1 by omega] at s
    obtain ⟨a, s⟩ := s
    have h1 := Sq_low E (by omega) s (11 - (k + m)) (by omega)
    refine Sq_skip hc E k (by omega) hz (Sq_congr (fun i _ => ?_) s)
    unfold va at h1 ⊢
    rcases E.2 (11 - (k + m)) with e | e
    · rw [e i, Nat.mul_zero, Nat.add_zero]
    · have h2 : (a * P (11 - (k + m)) (11 - (k + m))) % c = 0 := by
        rw [Nat.add_mod, hz _ (by omega), Nat.zero_add, Nat.mod_mod] at h1
        exact h1
      rcases mul_z hc h2 with h3 | h3
      · rw [Nat.mul_comm, add_z h3]
      · exact absurd h3 e
/-- nothing of the span begins where no pivot stands -/
theorem Sq_no {c : Nat} {P : Nat → Nat → Nat} (hc : c = 2 ∨ c = 3) (E : Ech c P) {i : Nat} (hi : i < 12) (h0 : ∀ j, P i j = 0) {w : Nat → Nat} (hz : ∀ j, j < i → w j % c = 0) (s : Sq c P 12 w) : w i % c = 0 := by
  have s1 : Sq c P (12 - i) w := Sq_skip hc E (m := 12 - i) i (by omega) (fun j hj => hz j (by omega)) (by rw [show i + (12 - i) = 12 by omega]; exact s)
  rw [show 12 - i = (11 - i) + 1 by omega] at s1
  obtain ⟨a, s1⟩ := s1
  rw [show 11 - (11 - i) = i by omega] at s1
  have s2 : Sq c P (11 - i) w := Sq_eq (fun j => by unfold va; rw [h0 j, Nat.mul_zero, Nat.add_zero]) s1
  exact Sq_low E (by omega) s2 i (by omega)
def Pi (P : Nat → Nat → Nat) (i0 : Nat) (v : Nat → Nat) : Nat → Nat → Nat := fun q => if q = i0 then v else P q
theorem Sq_ins0 {c : Nat} {P : Nat → Nat → Nat} {i0 : Nat} {v : Nat → Nat} : ∀ {m : Nat} {w : Nat → Nat}, i0 + m < 12 → (Sq c (Pi P i0 v) m w ↔ Sq c P m w)
  | 0, w, _ => Iff.rfl
  | m + 1, w, h => by
    have e : Pi P i0 v (11 - m) = P (11 - m) := if_neg (by omega)
    show (∃ a, Sq c (Pi P i0 v) m (va w a (Pi P i0 v (11 - m)))) ↔ ∃ a, Sq c P m (va w a (P (11 - m)))
    rw [e]
    exact exists_congr (fun a => Sq_ins0 (by omega))
theorem Sq_ins {c : Nat} {P : Nat → Nat → Nat} {i0 : Nat} {v : Nat → Nat} (hi : i0 < 12) (h0 : ∀ j, P i0 j = 0) : ∀ {m : Nat} {w : Nat → Nat}, 12 ≤ i0 + m → m ≤ 12 → (Sq c (Pi P i0 v) m w ↔ ∃ a, Sq c P m (va w a v))
  | 0, w, h, _ => by omega
  | m + 1, w, h, hm => by
    show (∃ a, Sq c (Pi P i0 v) m (va w a (Pi P i0 v (11 - m)))) ↔ ∃ b, ∃ a, Sq c P m (va (va w b v) a (P (11 - m)))
    by_cases hq : 11 - m = i0
    · have e : Pi P i0 v (11 - m) = v := if_pos hq
      rw [e, hq]
      refine exists_congr (fun a => ?_)
      rw [Sq_ins0 (by omega)]
      constructor
      · intro s
        exact ⟨0, Sq_eq (fun j => by unfold va; rw [h0 j]; rfl) s⟩
      · rintro ⟨b, s⟩
        exact Sq_eq (fun j => by unfold va; rw [h0 j, Nat.mul_zero, Nat.add_zero]) s
    · have e : Pi P i0 v (11 - m) = P (11 - m) := if_neg hq
      rw [e]
      constructor
      · rintro ⟨a, s⟩
        obtain ⟨b, s⟩ := (Sq_ins hi h0 (by omega) (by omega)).mp s
        exact ⟨b, a, Sq_eq (fun j => by unfold va; omega) s⟩
      · rintro ⟨b, a, s⟩
        exact ⟨a, (Sq_ins hi h0 (by omega) (by omega)).mpr ⟨b, Sq_eq (fun j => by unfold va; omega) s⟩⟩
-- ===== how many sums =====
def vzb (c : Nat) (w : Nat → Nat) : Bool := (List.range 12).all (fun i => decide (w i % c = 0))
theorem vzb_iff {c : Nat} {w : Nat → Nat} : vzb c w = true ↔ vz c w := by
  unfold vzb vz
  rw [List.all_eq_true]
  exact ⟨fun h i hi => decide_eq_true_eq.mp (h i (List.mem_range.mpr hi)), fun h i hi => decide_eq_true_eq.mpr (h i (List.mem_range.mp hi))⟩
theorem vzb_congr {c : Nat} {w w' : Nat → Nat} (h : ∀ i, i < 12 → w i % c = w' i % c) : vzb c w = vzb c w' := by
  rw [Bool.eq_iff_iff, vzb_iff, vzb_iff]
  exact ⟨fun z i hi => by rw [← h i hi]; exact z i hi, fun z i hi => by rw [h i hi]; exact z i hi⟩
/-- rows of the first j people, of the set's alone, that take w to 0 -/
def Nc (c : Nat) (T : Nat → Nat → Nat) (S j : Nat) (w : Nat → Nat) : Nat := cnt (fun row => ins S (dgt c row) j && vzb c (fun i => w i + sm (fun p => dgt c row p * T p i) j)) (c ^ j)
theorem ins_congr {S : Nat} {f g : Nat → Nat} : ∀ {P : Nat}, (∀ p, p < P → f p = g p) → ins S f P = ins S g P
  | 0, _ => rfl
  | P + 1, h => by rw [ins_succ, ins_succ, ins_congr (fun p hp => h p (by omega)), h P (by omega)]
theorem dgt_top {c d j r : Nat} (hc : 0 < c) (hd : d < c) (hr : r < c ^ j) : dgt c (d * c ^ j + r) j = d := by
  unfold dgt
  rw [Nat.mul_comm, Nat.mul_add_div (cpos hc j), Nat.div_eq_of_lt hr, Nat.add_zero, Nat.mod_eq_of_lt hd]
theorem dgt_under {c d j r p : Nat} (hc : 0 < c) (hr : r < c ^ j) (hp : p < j) : dgt c (d * c ^ j + r) p = dgt c r p := by
  rw [← dgt_mod hc hp, Nat.mul_comm, Nat.mul_add_mod, Nat.mod_eq_of_lt hr]
theorem cnt_ff : ∀ n, cnt (fun _ => false) n = 0
  | 0 => rfl
  | n + 1 => by rw [cnt_succ, cnt_ff n]; rfl
theorem Nc_succ {c : Nat} {T : Nat → Nat → Nat} {S j : Nat} {w : Nat → Nat} (hc : 0 < c) : Nc c T S (j + 1) w = sm (fun d => if S.testBit j || decide (d = 0) then Nc c T S j (va w d (T j)) else 0) c := by
  unfold Nc
  rw [Nat.pow_succ, Nat.mul_comm, cnt_blk]
  apply sm_congr
  intro d hd
  cases hb : (S.testBit j || decide (d = 0))
  · rw [if_neg (by decide), ← cnt_ff (c ^ j)]
    apply cnt_congr
    intro r hr
    rw [ins_succ, dgt_top hc hd hr, hb]
    simp
  · rw [if_pos rfl]
    apply cnt_congr
    intro r hr
    rw [ins_succ, dgt_top hc hd hr, hb, ins_congr (g := dgt c r) (fun p hp => dgt_under hc hr hp), Bool.and_true]
    congr 1
    apply vzb_congr
    intro i _
    unfold va
    rw [sm_succ, dgt_top hc hd hr, sm_congr (g := fun p => dgt c r p * T p i) j (fun p hp => by rw [dgt_under hc hr hp])]
    congr 1
    omega
theorem Nc_zero {c : Nat} {T : Nat → Nat → Nat} {S : Nat} {w : Nat → Nat} : Nc c T S 0 w = if vzb c w then 1 else 0 := by
  unfold Nc
  rw [Nat.pow_zero, cnt_succ]
  show 0 + _ = _
  rw [Nat.zero_add]
  rfl
theorem Nc_congr {c : Nat} {T : Nat → Nat → Nat} {S j : Nat} {w w' : Nat → Nat} (h : ∀ i, i < 12 → w i % c = w' i % c) : Nc c T S j w = Nc c T S j w' := by
  unfold Nc
  apply cnt_congr
  intro r _
  congr 1
  apply vzb_congr
  intro i hi
  rw [Nat.add_mod, h i hi, ← Nat.add_mod]
/-- K sums for each end of the span, none for others -/
def NS (c : Nat) (T : Nat → Nat → Nat) (S j : Nat) (P : Nat → Nat → Nat) (K : Nat) : Prop := ∀ w, (Sq c P 12 w → Nc c T S j w = K) ∧ (¬ Sq c P 12 w → Nc c T S j w = 0)
theorem NS_0 {c : Nat} {T : Nat → Nat → Nat} {S : Nat} : NS c T S 0 (fun _ _ => 0) 1 := by
  have key : ∀ m w, Sq c (fun _ _ => 0) m w ↔ vz c w := by
    intro m
    induction m with
    | zero => intro w; exact Iff.rfl
    | succ m ih =>
      intro w
      constructor
      · rintro ⟨a, s⟩
        exact (ih w).mp (Sq_eq (fun i => by unfold va; rw [Nat.mul_zero, Nat.add_zero]) s)
      · intro s
        exact ⟨0, Sq_eq (fun i => by unfold va; rw [Nat.mul_zero, Nat.add_zero]) ((ih w).mpr s)⟩
  intro w
  rw [key, Nc_zero]
  constructor
  · intro h
    rw [if_pos (vzb_iff.mpr h)]
  · intro h
    rw [if_neg (fun z => h (vzb_iff.mp z))]
theorem NS_skip {c : Nat} {T : Nat → Nat → Nat} {S j K : Nat} {P : Nat → Nat → Nat} (hc : c = 2 ∨ c = 3) (hb : S.testBit j = false) (N : NS c T S j P K) : NS c T S (j + 1) P K := by
  intro w
  have e : Nc c T S (j + 1) w = Nc c T S j w := by
    rw [Nc_succ (by omega)]
    have e0 : Nc c T S j (va w 0 (T j)) = Nc c T S j w := Nc_congr (fun i _ => by unfold va; rw [Nat.zero_mul, Nat.add_zero])
    rcases hc with rfl | rfl
    · simp [sm, hb, e0]
    · simp [sm, hb, e0]
  rw [e]
  exact N w
theorem Sq_red {c : Nat} {P : Nat → Nat → Nat} {w v : Nat → Nat} (hc : 0 < c) (a : Nat) : Sq c P 12 (va w a v) ↔ Sq c P 12 (va w (a % c) v) := by
  have : ∀ i, (w i + a * v i) % c = (w i + a % c * v i) % c := fun i => by
    conv => lhs; rw [← Nat.mod_add_div a c, Nat.add_mul, Nat.mul_assoc, ← Nat.add_assoc, Nat.add_mul_mod_self_left]
  exact ⟨Sq_congr (fun i _ => this i), Sq_congr (fun i _ => (this i).symm)⟩
theorem NS_in {c : Nat} {T : Nat → Nat → Nat} {S j K : Nat} {P : Nat → Nat → Nat} (hc : c = 2 ∨ c = 3) (hb : S.testBit j = true) (hv : Sq c P 12 (T j)) (N : NS c T S j P K) : NS c T S (j + 1) P (c * K) := by
  intro w
  have e : ∀ d, Sq c P 12 (va w d (T j)) ↔ Sq c P 12 w := fun d => ⟨fun s => Sq_back (by omega) s hv, fun s => Sq_va s hv d⟩
  rw [Nc_succ (by omega)]
  constructor
  · intro s
    have e1 : ∀ d, Nc c T S j (va w d (T j)) = K := fun d => (N _).1 ((e d).mpr s)
    rcases hc with rfl | rfl
    · simp only [sm, hb, Bool.true_or, if_true, e1]; omega
    · simp only [sm, hb, Bool.true_or, if_true, e1]; omega
  · intro s
    have e1 : ∀ d, Nc c T S j (va w d (T j)) = 0 := fun d => (N _).2 (fun z => s ((e d).mp z))
    rcases hc with rfl | rfl
    · simp only [sm, hb, Bool.true_or, if_true, e1]
    · simp only [sm, hb, Bool.true_or, if_true, e1]
/-- two ends with one sum: then v is of the span -/
theorem Sq_two {c : Nat} {P : Nat → Nat → Nat} {w v : Nat → Nat} (hc : c = 2 ∨ c = 3) {d e : Nat} (hde : d < e) (he : e < c) (h1 : Sq c P 12 (va w d v)) (h2 : Sq c P 12 (va w e v)) : Sq c P 12 v := by
  have h3 := Sq_add h2 (Sq_mul h1 (c - 1))
  have h4 : Sq c P 12 (fun i => (e - d) * v i) := by
    refine Sq_congr (fun i _ => ?_) h3
    unfold va
    obtain ⟨t, rfl⟩ : ∃ t, e = d + t := ⟨e - d, by omega⟩
    obtain ⟨k, rfl⟩ : ∃ k, c = k + 1 := ⟨c - 1, by omega⟩
    rw [Nat.add_sub_cancel, Nat.add_sub_cancel_left, Nat.mul_add, Nat.add_mul]
    have : w i + (d * v i + t * v i) + (k * w i + k * (d * v i)) = t * v i + (k + 1) * (w i + d * v i) := by
      rw [Nat.succ_mul, Nat.mul_add]
      omega
    rw [this, Nat.add_mul_mod_self_left]
  have h5 : e - d = 1 ∨ (c = 3 ∧ e - d = 2) := by omega
  rcases h5 with h5 | ⟨h5, h6⟩
  · rw [h5] at h4
    exact Sq_eq (fun i => Nat.one_mul _) h4
  · rw [h6] at h4
    subst h5
    refine Sq_congr (fun i _ => ?_) (Sq_mul h4 2)
    omega
theorem NS_out {c : Nat} {T : Nat → Nat → Nat} {S j K : Nat} {P P' : Nat → Nat → Nat} (hc : c = 2 ∨ c = 3) (hb : S.testBit j = true) (hv : ¬ Sq c P 12 (T j)) (hP : ∀ w, Sq c P' 12 w ↔ ∃ a, Sq c P 12 (va w a (T j))) (N : NS c T S j P K) : NS c T S (j + 1) P' K := by
  intro w
  rw [Nc_succ (by omega), hP]
  constructor
  · rintro ⟨a, s⟩
    rw [Sq_red (by omega)] at s
    have ha : a % c < c := Nat.mod_lt _ (by omega)
    generalize a % c = d at s ha
    have e1 : Nc c T S j (va w d (T j)) = K := (N _).1 s
    have e2 : ∀ e, e < c → e ≠ d → Nc c T S j (va w e (T j)) = 0 := fun e he hne => (N _).2 (fun z => hv (by
      rcases Nat.lt_or_ge e d with q | q
      · exact Sq_two hc q ha z s
      · exact Sq_two hc (show d < e by omega) he s z))
    rcases hc with rfl | rfl
    · have : d = 0 ∨ d = 1 := by omega
      rcases this with rfl | rfl
      · simp only [sm, hb, Bool.true_or, if_true, e1, e2 1 (by decide) (by decide)]; omega
      · simp only [sm, hb, Bool.true_or, if_true, e1, e2 0 (by decide) (by decide)]; omega
    · have : d = 0 ∨ d = 1 ∨ d = 2 := by omega
      rcases this with rfl | rfl | rfl
      · simp only [sm, hb, Bool.true_or, if_true, e1, e2 1 (by decide) (by decide), e2 2 (by decide) (by decide)]; omega
      · simp only [sm, hb, Bool.true_or, if_true, e1, e2 0 (by decide) (by decide), e2 2 (by decide) (by decide)]; omega
      · simp only [sm, hb, Bool.true_or, if_true, e1, e2 0 (by decide) (by decide), e2 1 (by decide) (by decide)]; omega
  · intro h
    have e1 : ∀ d, Nc c T S j (va w d (T j)) = 0 := fun d => (N _).2 (fun z => h ⟨d, z⟩)
    rcases hc with rfl | rfl
    · simp only [sm, hb, Bool.true_or, if_true, e1]
    · simp only [sm, hb, Bool.true_or, if_true, e1]
