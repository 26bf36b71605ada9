/-! A match: what is below every fixed judgement, and is one itself, is the only such -/
def Wo (nx : Nat → Nat → Nat) (P : Nat) (w : Nat → Nat) (r x : Nat) : Prop :=
  (x = 1 ∧ ∃ p, p < P ∧ w (nx r p) = 0) ∨ (x = 0 ∧ ∀ p, p < P → w (nx r p) = 1) ∨ (x = 2 ∧ (∀ p, p < P → w (nx r p) ≠ 0) ∧ ∃ p, p < P ∧ w (nx r p) ≠ 1)
def Fw (G : Nat → Bool) (nx : Nat → Nat → Nat) (P N : Nat) (w : Nat → Nat) : Prop := ∀ r, r < N → (G r = true → w r = 0) ∧ (G r = false → Wo nx P w r (w r))
def Bel (G : Nat → Bool) (nx : Nat → Nat → Nat) (P N : Nat) (v : Nat → Nat) : Prop := ∀ w, Fw G nx P N w → ∀ r, r < N → v r ≠ 2 → w r = v r
theorem bel_eq {G : Nat → Bool} {nx : Nat → Nat → Nat} {P N : Nat} {v w : Nat → Nat} (hv : Fw G nx P N v) (bv : Bel G nx P N v) (hw : Fw G nx P N w) (bw : Bel G nx P N w) : ∀ r, r < N → v r = w r := by
  intro r hr
  by_cases h : v r = 2
  · by_cases h2 : w r = 2
    · rw [h, h2]
    · exact bw v hv r hr h2
  · exact (bv w hw r hr h).symm
def upn (v : Nat → Nat) (r x : Nat) : Nat → Nat := fun i => if i = r then x else v i
theorem upn_at {v : Nat → Nat} {r x : Nat} : upn v r x r = x := if_pos rfl
theorem upn_ne {v : Nat → Nat} {r x i : Nat} (h : i ≠ r) : upn v r x i = v i := if_neg h
theorem upn_same {v : Nat → Nat} {r x : Nat} (h : v r = x) : upn v r x = v := by
  funext i
  unfold upn
  split
  · rename_i e; rw [e, h]
  · rfl
theorem wo_mono {nx : Nat → Nat → Nat} {P : Nat} {v v' : Nat → Nat} {r x : Nat} (h : Wo nx P v r x) (hx : x ≠ 2) (hm : ∀ p, p < P → v (nx r p) ≠ 2 → v' (nx r p) = v (nx r p)) : Wo nx P v' r x := by
  rcases h with ⟨h1, p, hp, h2⟩ | ⟨h1, h2⟩ | ⟨h1, -⟩
  · exact Or.inl ⟨h1, p, hp, by rw [hm p hp (by omega)]; exact h2⟩
  · exact Or.inr (Or.inl ⟨h1, fun p hp => by have := h2 p hp; rw [hm p hp (by omega)]; exact this⟩)
  · exact absurd h1 hx
theorem wo_det {nx : Nat → Nat → Nat} {P : Nat} (hP : 0 < P) {v : Nat → Nat} {r x y : Nat} (h : Wo nx P v r x) (h' : Wo nx P v r y) : x = y := by
  rcases h with ⟨h1, p, hp, h2⟩ | ⟨h1, h2⟩ | ⟨h1, h2, p, hp, h3⟩
  · rcases h' with ⟨k1, -⟩ | ⟨k1, k2⟩ | ⟨k1, k2, -⟩
    · omega
    · have := k2 p hp; omega
    · exact absurd h2 (k2 p hp)
  · rcases h' with ⟨k1, q, hq, k2⟩ | ⟨k1, -⟩ | ⟨k1, k2, q, hq, k3⟩
    · have := h2 q hq; omega
    · omega
    · exact absurd (h2 q hq) k3
  · rcases h' with ⟨k1, q, hq, k2⟩ | ⟨k1, k2⟩ | ⟨k1, -⟩
    · exact absurd k2 (h2 q hq)
    · exact absurd (k2 p hp) h3
    · omega
theorem bel_set {G : Nat → Bool} {nx : Nat → Nat → Nat} {P N : Nat} {v : Nat → Nat} (hN : ∀ r p, r < N → p < P → nx r p < N) (hP : 0 < P) (B : Bel G nx P N v) {r x : Nat} (hr : r < N) (hG : G r = false) (hx : x ≠ 2) (h : Wo nx P v r x) : Bel G nx P N (upn v r x) := by
  intro w hw i hi hvi
  by_cases hir : i = r
  · subst hir
    rw [upn_at]
    exact wo_det hP ((hw i hi).2 hG) (wo_mono h hx (fun p hp hne => B w hw _ (hN i p hi hp) hne))
  · rw [upn_ne hir] at hvi ⊢
    exact B w hw i hi hvi
/-- what holds of a judgement under way -/
def MJ (G : Nat → Bool) (nx : Nat → Nat → Nat) (P N : Nat) (v : Nat → Nat) : Prop :=
  (∀ r, r < N → v r ≤ 2) ∧ Bel G nx P N v ∧ (∀ r, r < N → G r = true → v r = 0) ∧ (∀ r, r < N → G r = false → v r ≠ 2 → Wo nx P v r (v r))
def v0 (G : Nat → Bool) : Nat → Nat := fun r => if G r = true then 0 else 2
theorem v0_t {G : Nat → Bool} {r : Nat} (h : G r = true) : v0 G r = 0 := if_pos h
theorem v0_f {G : Nat → Bool} {r : Nat} (h : G r = false) : v0 G r = 2 := if_neg (by rw [h]; decide)
theorem mj_0 {G : Nat → Bool} {nx : Nat → Nat → Nat} {P N : Nat} : MJ G nx P N (v0 G) := by
  have e : ∀ r, v0 G r ≠ 2 → G r = true := fun r h => by
    cases hg : G r
    · exact absurd (v0_f hg) h
    · rfl
  refine ⟨fun r hr => ?_, fun w hw r hr h => ?_, fun r hr h => v0_t h, fun r hr h h2 => absurd (v0_f h) h2⟩
  · cases hg : G r
    · rw [v0_f hg]; exact Nat.le_refl _
    · rw [v0_t hg]; omega
  · rw [v0_t (e r h)]
    exact (hw r hr).1 (e r h)
theorem mj_set {G : Nat → Bool} {nx : Nat → Nat → Nat} {P N : Nat} {v : Nat → Nat} (hN : ∀ r p, r < N → p < P → nx r p < N) (hP : 0 < P) (M : MJ G nx P N v) {r x : Nat} (hr : r < N) (hv : v r = 2) (h : Wo nx P v r x) (hx : x ≠ 2) : G r = false ∧ MJ G nx P N (upn v r x) := by
  obtain ⟨a, b, c, d⟩ := M
  have hG : G r = false := by
    cases hg : G r
    · rfl
    · have := c r hr hg; omega
  have hm : ∀ i, v i ≠ 2 → upn v r x i = v i := fun i h => upn_ne (fun z => h (by rw [z, hv]))
  refine ⟨hG, fun i hi => ?_, bel_set hN hP b hr hG hx h, fun i hi hgi => ?_, fun i hi hgi h2 => ?_⟩
  · by_cases hir : i = r
    · rw [hir, upn_at]
      rcases h with h | h | h <;> omega
    · rw [upn_ne hir]
      exact a i hi
  · rw [upn_ne (fun z => by rw [z, hG] at hgi; cases hgi)]
    exact c i hi hgi
  · by_cases hir : i = r
    · rw [hir, upn_at]
      exact wo_mono h hx (fun p _ hne => hm _ hne)
    · rw [upn_ne hir] at h2 ⊢
      exact wo_mono (d i hi hgi h2) h2 (fun p _ hne => hm _ hne)
theorem mj_fix {G : Nat → Bool} {nx : Nat → Nat → Nat} {P N : Nat} {v : Nat → Nat} (M : MJ G nx P N v) (h : ∀ r, r < N → v r = 2 → Wo nx P v r 2) : Fw G nx P N v := by
  obtain ⟨a, b, c, d⟩ := M
  intro r hr
  refine ⟨c r hr, fun hg => ?_⟩
  by_cases h2 : v r = 2
  · rw [h2]
    exact h r hr h2
  · exact d r hr hg h2
-- ===== backwards from the ends =====
theorem cnt_flip {f g : Nat → Bool} {r : Nat} (hr : f r = false) (hg : g r = true) (ho : ∀ i, i ≠ r → g i = f i) : ∀ n, r < n → cnt g n = cnt f n + 1
  | 0, h => by omega
  | n + 1, h => by
    rw [cnt_succ, cnt_succ]
    by_cases e : r = n
    · subst e
      rw [cnt_congr r (fun i hi => ho i (by omega)), hr, hg]
      rfl
    · rw [cnt_flip hr hg ho n (by omega), ho n (fun z => e z.symm)]
      omega
theorem cnt_all {f : Nat → Bool} : ∀ n, cnt f n = n → ∀ i, i < n → f i = true
  | 0, _, i, hi => by omega
  | n + 1, h, i, hi => by
    rw [cnt_succ] at h
    have h1 := cnt_le f n
    have hf : f n = true := by
      cases hf : f n
      · rw [hf] at h
        have : cnt f n + 0 = n + 1 := h
        omega
      · rfl
    by_cases e : i = n
    · rw [e]; exact hf
    · rw [hf, if_pos rfl] at h
      exact cnt_all n (by omega) i (by omega)
theorem cnt_fill {f : Nat → Bool} : ∀ n, (∀ i, i < n → f i = true) → cnt f n = n
  | 0, _ => rfl
  | n + 1, h => by
    rw [cnt_succ, cnt_fill n (fun i hi => h i (by omega)), h n (by omega)]
    rfl
/-- the going p' out of r has been told back -/
noncomputable def tbk (nx : Nat → Nat → Nat) (q : Nat → Nat) (i p : Nat) (r p' : Nat) : Bool := @decide (∃ j, (j < i ∨ (j = i ∧ p' < p)) ∧ q j = nx r p') (Classical.propDecidable _)
theorem tbk_iff {nx : Nat → Nat → Nat} {q : Nat → Nat} {i p r p' : Nat} : tbk nx q i p r p' = true ↔ ∃ j, (j < i ∨ (j = i ∧ p' < p)) ∧ q j = nx r p' := by
  unfold tbk
  exact @decide_eq_true_iff _ (Classical.propDecidable _)
theorem tbk_no {nx : Nat → Nat → Nat} {q : Nat → Nat} {i p r p' : Nat} (h : ¬ ∃ j, (j < i ∨ (j = i ∧ p' < p)) ∧ q j = nx r p') : tbk nx q i p r p' = false := by
  cases e : tbk nx q i p r p'
  · rfl
  · exact absurd (tbk_iff.mp e) h
theorem tbk_eq {nx : Nat → Nat → Nat} {q q' : Nat → Nat} {i p i' p2 r p' : Nat} (h : (∃ j, (j < i ∨ (j = i ∧ p' < p)) ∧ q j = nx r p') ↔ ∃ j, (j < i' ∨ (j = i' ∧ p' < p2)) ∧ q' j = nx r p') : tbk nx q i p r p' = tbk nx q' i' p2 r p' := by
  cases e : tbk nx q i p r p'
  · exact (tbk_no (fun z => by rw [tbk_iff.mpr (h.mpr z)] at e; cases e)).symm
  · exact (tbk_iff.mpr (h.mp (tbk_iff.mp e))).symm
def QJ (v q : Nat → Nat) (n N : Nat) : Prop := n = cnt (fun r => !decide (v r = 2)) N ∧ (∀ j, j < n → q j < N ∧ v (q j) ≠ 2) ∧ (∀ j k, j < n → k < n → q j = q k → j = k) ∧ (∀ r, r < N → v r ≠ 2 → ∃ j, j < n ∧ q j = r)
def HJ (nx : Nat → Nat → Nat) (P N : Nat) (v hp q : Nat → Nat) (i p : Nat) : Prop := ∀ r, r < N → v r = 2 → hp r + cnt (tbk nx q i p r) P = P ∧ (0 < P → 0 < hp r) ∧ ∀ p', p' < P → tbk nx q i p r p' = true → v (nx r p') = 1
theorem qj_set {v q : Nat → Nat} {n N r x : Nat} (Q : QJ v q n N) (hr : r < N) (hv : v r = 2) (hx : x ≠ 2) : n < N ∧ QJ (upn v r x) (upn q n r) (n + 1) N := by
  obtain ⟨a, b, c, d⟩ := Q
  have e1 := cnt_flip (f := fun r => !decide (v r = 2)) (g := fun i => !decide (upn v r x i = 2)) (r := r) (by simp [hv]) (by simp [upn_at, hx]) (fun i hi => by simp [upn_ne hi]) N hr
  have e2 := cnt_le (fun i => !decide (upn v r x i = 2)) N
  refine ⟨by omega, by omega, fun j hj => ?_, fun j k hj hk => ?_, fun i hi hvi => ?_⟩
  · by_cases h : j = n
    · subst h
      rw [upn_at, upn_at]
      exact ⟨hr, hx⟩
    · rw [upn_ne h]
      obtain ⟨b1, b2⟩ := b j (by omega)
      refine ⟨b1, ?_⟩
      rw [upn_ne (fun z => b2 (by rw [z, hv]))]
      exact b2
  · have nq : ∀ j, j < n → q j ≠ r := fun j hj z => (b j hj).2 (by rw [z, hv])
    by_cases h : j = n
    · by_cases h' : k = n
      · intro _; omega
      · rw [h, upn_at, upn_ne h']
        intro z
        exact absurd z.symm (nq k (by omega))
    · by_cases h' : k = n
      · rw [h', upn_at, upn_ne h]
        intro z
        exact absurd z (nq j (by omega))
      · rw [upn_ne h, upn_ne h']
        exact c j k (by omega) (by omega)
  · by_cases h : i = r
    · exact ⟨n, by omega, by rw [upn_at, h]⟩
    · rw [upn_ne h] at hvi
      obtain ⟨j, j1, j2⟩ := d i hi hvi
      exact ⟨j, by omega, by rw [upn_ne (by omega)]; exact j2⟩
theorem tbk_step {nx : Nat → Nat → Nat} {q : Nat → Nat} {i p r p' : Nat} (h : p' ≠ p ∨ q i ≠ nx r p') : tbk nx q i (p + 1) r p' = tbk nx q i p r p' := by
  refine tbk_eq ⟨fun ⟨j, hj, e⟩ => ⟨j, ?_, e⟩, fun ⟨j, hj, e⟩ => ⟨j, by omega, e⟩⟩
  rcases hj with hj | ⟨hj, hp⟩
  · exact Or.inl hj
  · refine Or.inr ⟨hj, ?_⟩
    rcases h with h | h
    · omega
    · exact absurd (by rw [← hj]; exact e) h
theorem tbk_q {nx : Nat → Nat → Nat} {q : Nat → Nat} {i p r p' n x : Nat} (hi : i < n) : tbk nx (upn q n x) i p r p' = tbk nx q i p r p' := by
  refine tbk_eq ⟨fun ⟨j, hj, e⟩ => ⟨j, hj, ?_⟩, fun ⟨j, hj, e⟩ => ⟨j, hj, ?_⟩⟩
  · rw [upn_ne (by omega)] at e; exact e
  · rw [upn_ne (by omega)]; exact e
/-- back: r is the only one out of which the going p leads to s -/
def Bk (nx bf : Nat → Nat → Nat) (P N : Nat) : Prop := (∀ s p, s < N → p < P → bf s p < N ∧ nx (bf s p) p = s) ∧ (∀ r p, r < N → p < P → nx r p < N ∧ bf (nx r p) p = r)
theorem hj_other {nx bf : Nat → Nat → Nat} {P N : Nat} (B : Bk nx bf P N) {v hp q : Nat → Nat} {i p : Nat} (hpP : p < P) {r : Nat} (hr : r < N) (hne : r ≠ bf (q i) p) (p' : Nat) : tbk nx q i (p + 1) r p' = tbk nx q i p r p' := by
  apply tbk_step
  by_cases h : p' = p
  · right
    intro e
    rw [h] at e
    exact hne (by rw [e, (B.2 r p hr hpP).2])
  · exact Or.inl h
theorem hj_pass {nx bf : Nat → Nat → Nat} {P N : Nat} (B : Bk nx bf P N) {v hp q : Nat → Nat} {i p : Nat} (hpP : p < P) (H : HJ nx P N v hp q i p) (h : v (bf (q i) p) ≠ 2) : HJ nx P N v hp q i (p + 1) := by
  intro r hr hv
  obtain ⟨a, b, c⟩ := H r hr hv
  have e : ∀ p', tbk nx q i (p + 1) r p' = tbk nx q i p r p' := hj_other (v := v) (hp := hp) B hpP hr (fun z => h (by rw [← z]; exact hv))
  exact ⟨by rw [cnt_congr P (fun p' _ => e p')]; exact a, b, fun p' h1 h2 => c p' h1 (by rw [← e]; exact h2)⟩
theorem hj_win {nx bf : Nat → Nat → Nat} {P N : Nat} (B : Bk nx bf P N) {v hp q : Nat → Nat} {i p n x : Nat} (hpP : p < P) (hi : i < n) (hx : x ≠ 2) (hq : q i < N) (hv : v (bf (q i) p) = 2) (H : HJ nx P N v hp q i p) : HJ nx P N (upn v (bf (q i) p) x) hp (upn q n (bf (q i) p)) i (p + 1) := by
  intro r hr hvr
  have hne : r ≠ bf (q i) p := fun z => by rw [z, upn_at] at hvr; exact hx hvr
  rw [upn_ne hne] at hvr
  obtain ⟨a, b, c⟩ := H r hr hvr
  have e : ∀ p', tbk nx (upn q n (bf (q i) p)) i (p + 1) r p' = tbk nx q i p r p' := fun p' => by rw [tbk_q hi, hj_other (v := v) (hp := hp) B hpP hr hne]
  refine ⟨by rw [cnt_congr P (fun p' _ => e p')]; exact a, b, fun p' h1 h2 => ?_⟩
  have := c p' h1 (by rw [← e]; exact h2)
  rw [upn_ne (fun z => by rw [z] at this; omega)]
  exact this
theorem tbk_new {nx bf : Nat → Nat → Nat} {P N : Nat} (B : Bk nx bf P N) {v q : Nat → Nat} {i p n : Nat} (hpP : p < P) (hi : i < n) (Q : QJ v q n N) : tbk nx q i p (bf (q i) p) p = false ∧ tbk nx q i (p + 1) (bf (q i) p) p = true := by
  have hq := (Q.2.1 i hi).1
  have e := (B.1 (q i) p hq hpP).2
  refine ⟨tbk_no (fun ⟨j, hj, z⟩ => ?_), tbk_iff.mpr ⟨i, Or.inr ⟨rfl, by omega⟩, e.symm⟩⟩
  rw [e] at z
  have := Q.2.2.1 j i (by omega) hi z
  omega
/-- one hope less of r -/
theorem hj_less {nx bf : Nat → Nat → Nat} {P N : Nat} (B : Bk nx bf P N) {v hp q : Nat → Nat} {i p n : Nat} (hpP : p < P) (hi : i < n) (Q : QJ v q n N) (hv : v (bf (q i) p) = 2) (hs : v (q i) = 1) (H : HJ nx P N v hp q i p) :
    1 ≤ hp (bf (q i) p) ∧ hp (bf (q i) p) ≤ P ∧ (hp (bf (q i) p) - 1 ≠ 0 → HJ nx P N v (upn hp (bf (q i) p) (hp (bf (q i) p) - 1)) q i (p + 1)) ∧ (hp (bf (q i) p) - 1 = 0 → Wo nx P v (bf (q i) p) 0) := by
  have hq := (Q.2.1 i hi).1
  obtain ⟨hb, e⟩ := B.1 (q i) p hq hpP
  obtain ⟨n1, n2⟩ := tbk_new B hpP hi Q
  obtain ⟨a, b, c⟩ := H _ hb hv
  have hc : cnt (tbk nx q i (p + 1) (bf (q i) p)) P = cnt (tbk nx q i p (bf (q i) p)) P + 1 := cnt_flip n1 n2 (fun p' h => tbk_step (Or.inl h)) P hpP
  have c' : ∀ p', p' < P → tbk nx q i (p + 1) (bf (q i) p) p' = true → v (nx (bf (q i) p) p') = 1 := by
    intro p' h1 h2
    by_cases h : p' = p
    · rw [h, e]; exact hs
    · rw [tbk_step (Or.inl h)] at h2
      exact c p' h1 h2
  have b' := b (by omega)
  refine ⟨by omega, by omega, fun h r hr hvr => ?_, fun h => Or.inr (Or.inl ⟨rfl, fun p' h1 => c' p' h1 (cnt_all P (by omega) p' h1)⟩)⟩
  by_cases hne : r = bf (q i) p
  · rw [hne, upn_at]
    exact ⟨by omega, fun _ => by omega, c'⟩
  · rw [upn_ne hne]
    obtain ⟨a2, b2, c2⟩ := H r hr hvr
    have e2 : ∀ p', tbk nx q i (p + 1) r p' = tbk nx q i p r p' := hj_other (v := v) (hp := hp) B hpP hr hne
    exact ⟨by rw [cnt_congr P (fun p' _ => e2 p')]; exact a2, b2, fun p' h1 h2 => c2 p' h1 (by rw [← e2]; exact h2)⟩
theorem hj_hp {nx : Nat → Nat → Nat} {P N : Nat} {v hp q : Nat → Nat} {i p r x y : Nat} (hx : x ≠ 2) (H : HJ nx P N (upn v r x) hp q i p) : HJ nx P N (upn v r x) (upn hp r y) q i p := by
  intro r' hr hv
  have : r' ≠ r := fun z => by rw [z, upn_at] at hv; exact hx hv
  rw [upn_ne this]
  exact H r' hr hv
theorem hj_turn {nx : Nat → Nat → Nat} {P N : Nat} {v hp q : Nat → Nat} {i : Nat} (H : HJ nx P N v hp q i P) : HJ nx P N v hp q (i + 1) 0 := by
  intro r hr hv
  obtain ⟨a, b, c⟩ := H r hr hv
  have e : ∀ p', p' < P → tbk nx q (i + 1) 0 r p' = tbk nx q i P r p' := fun p' hp' => tbk_eq ⟨fun ⟨j, hj, e⟩ => ⟨j, by omega, e⟩, fun ⟨j, hj, e⟩ => ⟨j, by omega, e⟩⟩
  exact ⟨by rw [cnt_congr P e]; exact a, b, fun p' h1 h2 => c p' h1 (by rw [← e p' h1]; exact h2)⟩
theorem hj_0 {nx : Nat → Nat → Nat} {P N : Nat} {v q : Nat → Nat} : HJ nx P N v (fun _ => P) q 0 0 := by
  intro r hr hv
  have e : ∀ p', tbk nx q 0 0 r p' = false := fun p' => tbk_no (fun ⟨j, hj, _⟩ => by omega)
  have hz : cnt (tbk nx q 0 0 r) P = 0 := (cnt_0 P).mpr (fun i _ => e i)
  exact ⟨by rw [hz]; rfl, fun h => h, fun p' _ h => by rw [e] at h; cases h⟩
theorem hj_end {G : Nat → Bool} {nx : Nat → Nat → Nat} {P N : Nat} (hN : ∀ r p, r < N → p < P → nx r p < N) (hP : 0 < P) {v hp q : Nat → Nat} {n : Nat} (M : MJ G nx P N v) (Q : QJ v q n N) (H : HJ nx P N v hp q n 0) : Fw G nx P N v := by
  refine mj_fix M (fun r hr hv => Or.inr (Or.inr ⟨rfl, fun p hp h0 => ?_, ?_⟩))
  · obtain ⟨a, b, c⟩ := H r hr hv
    obtain ⟨j, j1, j2⟩ := Q.2.2.2 _ (hN r p hr hp) (by omega)
    have := c p hp (tbk_iff.mpr ⟨j, Or.inl j1, j2⟩)
    omega
  · obtain ⟨a, b, c⟩ := H r hr hv
    refine Classical.byContradiction (fun hno => ?_)
    have hall : ∀ p, p < P → v (nx r p) = 1 := fun p hp => Classical.byContradiction (fun h => hno ⟨p, hp, h⟩)
    have hf := cnt_fill (f := tbk nx q n 0 r) P (fun p hp => by
      obtain ⟨j, j1, j2⟩ := Q.2.2.2 _ (hN r p hr hp) (by have := hall p hp; omega)
      exact tbk_iff.mpr ⟨j, Or.inl j1, j2⟩)
    have := b hP
    omega
-- ===== the row behind a going, and the one ahead of it =====
theorem dg_add {c a k m : Nat} (hc : 0 < c) (hm : dgt c a k + m < c) (e : Nat) : dgt c (a + m * c ^ k) e = dgt c a e + if e = k then m else 0 := by
  have hk := cpos hc k
  by_cases h1 : e < k
  · rw [if_neg (by omega), Nat.add_zero]
    unfold dgt
    have e1 : c ^ k = c ^ e * (c * c ^ (k - e - 1)) := by
      rw [← Nat.pow_succ', ← Nat.pow_add]
      congr 1
      omega
    rw [e1, show m * (c ^ e * (c * c ^ (k - e - 1))) = c ^ e * (c * (c ^ (k - e - 1) * m)) by
      rw [Nat.mul_comm m, Nat.mul_assoc, Nat.mul_assoc], Nat.add_mul_div_left _ _ (cpos hc e), Nat.add_mul_mod_self_left]
  · have hd : (a + m * c ^ k) / c ^ k = a / c ^ k + m := Nat.add_mul_div_right _ _ hk
    by_cases h2 : e = k
    · subst h2
      rw [if_pos rfl]
      unfold dgt at hm ⊢
      rw [hd, ← Nat.mod_add_mod, Nat.mod_eq_of_lt hm]
    · rw [if_neg h2, Nat.add_zero]
      unfold dgt at hm ⊢
      have e1 : c ^ e = c ^ k * (c * c ^ (e - k - 1)) := by
        rw [← Nat.pow_succ', ← Nat.pow_add]
        congr 1
        omega
      have hy : (a / c ^ k + m) / c = a / c ^ k / c := by
        have h3 := Nat.div_add_mod (a / c ^ k) c
        have h4 : a / c ^ k + m = c * (a / c ^ k / c) + (a / c ^ k % c + m) := by omega
        rw [h4, Nat.mul_add_div hc, Nat.div_eq_of_lt hm, Nat.add_zero]
      rw [e1]
      simp only [← Nat.div_div_eq_div_mul]
      rw [hd, hy]
theorem dg_sub {c r k m : Nat} (hc : 0 < c) (hm : m ≤ dgt c r k) : m * c ^ k ≤ r ∧ ∀ e, dgt c r e = dgt c (r - m * c ^ k) e + if e = k then m else 0 := by
  have hk := cpos hc k
  have h1 : m * c ^ k ≤ r := by
    have h2 : m ≤ r / c ^ k := Nat.le_trans hm (Nat.mod_le _ _)
    exact (Nat.le_div_iff_mul_le hk).mp h2
  refine ⟨h1, fun e => ?_⟩
  have hr : r = (r - m * c ^ k) + m * c ^ k := by omega
  have hd : r / c ^ k = (r - m * c ^ k) / c ^ k + m := by
    rw [← Nat.add_mul_div_right _ _ hk, ← hr]
  have hlt := dgt_lt hc r k
  have hz : dgt c (r - m * c ^ k) k + m < c := by
    unfold dgt at hm hlt ⊢
    have h3 := Nat.div_add_mod (r / c ^ k) c
    have h4 : (r - m * c ^ k) / c ^ k = c * (r / c ^ k / c) + (r / c ^ k % c - m) := by omega
    rw [h4, Nat.mul_add_mod, Nat.mod_eq_of_lt (by omega)]
    omega
  have := dg_add hc hz e
  rw [← hr] at this
  exact this
theorem dg_lt {c n r k m : Nat} (hc : 0 < c) (hr : r < c ^ n) (hk : k < n) (hm : dgt c r k + m < c) : r + m * c ^ k < c ^ n := by
  have hq := cpos hc k
  have e1 : c ^ n = c * c ^ (n - k - 1) * c ^ k := by
    rw [← Nat.pow_succ', ← Nat.pow_add]
    congr 1
    omega
  rw [e1] at hr ⊢
  have h1 : r / c ^ k < c * c ^ (n - k - 1) := (Nat.div_lt_iff_lt_mul hq).mpr hr
  apply (Nat.div_lt_iff_lt_mul hq).mp
  rw [Nat.add_mul_div_right _ _ hq]
  unfold dgt at hm
  have h3 := Nat.div_add_mod (r / c ^ k) c
  have h4 : r / c ^ k / c < c ^ (n - k - 1) := Nat.div_lt_of_lt_mul h1
  have h5 : c * (r / c ^ k / c + 1) ≤ c * c ^ (n - k - 1) := Nat.mul_le_mul_left c h4
  rw [Nat.mul_add] at h5
  omega
/-- the row behind one going more -/
def nxm (c r k : Nat) : Nat := if dgt c r k < c - 1 then r + c ^ k else r - c ^ k * (c - 1)
def bef (c r k : Nat) : Nat := if 0 < dgt c r k then r - c ^ k else r + (c - 1) * c ^ k
theorem nxm_ok {c n r k : Nat} (hc : c = 2 ∨ c = 3) (hr : r < c ^ n) (hk : k < n) : nxm c r k < c ^ n ∧ ∀ e, dgt c (nxm c r k) e = if e = k then (dgt c r k + 1) % c else dgt c r e := by
  have h0 : 0 < c := by omega
  have hd := dgt_lt h0 r k
  unfold nxm
  by_cases h : dgt c r k < c - 1
  · rw [if_pos h]
    have h1 := dg_lt (m := 1) h0 hr hk (by omega)
    rw [Nat.one_mul] at h1
    refine ⟨h1, fun e => ?_⟩
    have h2 := dg_add (m := 1) h0 (a := r) (k := k) (by omega) e
    rw [Nat.one_mul] at h2
    rw [h2]
    by_cases he : e = k
    · rw [if_pos he, if_pos he, he, Nat.mod_eq_of_lt (by omega)]
    · rw [if_neg he, if_neg he]
      rfl
  · rw [if_neg h, Nat.mul_comm]
    obtain ⟨h1, h2⟩ := dg_sub (m := c - 1) h0 (r := r) (k := k) (by omega)
    refine ⟨by omega, fun e => ?_⟩
    have h3 := h2 e
    by_cases he : e = k
    · rw [if_pos he] at h3 ⊢
      rw [he] at h3 ⊢
      have : dgt c r k + 1 = c := by omega
      rw [this, Nat.mod_self]
      omega
    · rw [if_neg he] at h3 ⊢
      omega
theorem bef_ok {c n r k : Nat} (hc : c = 2 ∨ c = 3) (hr : r < c ^ n) (hk : k < n) : bef c r k < c ^ n ∧ ∀ e, dgt c (bef c r k) e = if e = k then (dgt c r k + (c - 1)) % c else dgt c r e := by
  have h0 : 0 < c := by omega
  have hd := dgt_lt h0 r k
  unfold bef
  by_cases h : 0 < dgt c r k
  · rw [if_pos h]
    obtain ⟨h1, h2⟩ := dg_sub (m := 1) h0 (r := r) (k := k) (by omega)
    rw [Nat.one_mul] at h1 h2
    refine ⟨by omega, fun e => ?_⟩
    have h3 := h2 e
    by_cases he : e = k
    · rw [if_pos he] at h3 ⊢
      rw [he] at h3 ⊢
      have : dgt c r k + (c - 1) = (dgt c r k - 1) + c := by omega
      rw [this, Nat.add_mod_right, Nat.mod_eq_of_lt (by omega)]
      omega
    · rw [if_neg he] at h3 ⊢
      omega
  · rw [if_neg h]
    have hz : dgt c r k = 0 := by omega
    have h1 := dg_lt (m := c - 1) h0 hr hk (by omega)
    refine ⟨h1, fun e => ?_⟩
    have h2 := dg_add (m := c - 1) h0 (a := r) (k := k) (by omega) e
    rw [h2]
    by_cases he : e = k
    · rw [if_pos he, if_pos he, he, hz, Nat.zero_add, Nat.mod_eq_of_lt (by omega)]
    · rw [if_neg he, if_neg he]
      rfl
theorem bk_ok {c n : Nat} (hc : c = 2 ∨ c = 3) : Bk (fun r p => nxm c r (n - 1 - p)) (fun r p => bef c r (n - 1 - p)) n (c ^ n) := by
  have h0 : 0 < c := by omega
  refine ⟨fun s p hs hp => ?_, fun r p hr hp => ?_⟩
  · obtain ⟨b1, b2⟩ := bef_ok hc hs (show n - 1 - p < n by omega)
    obtain ⟨n1, n2⟩ := nxm_ok hc b1 (show n - 1 - p < n by omega)
    refine ⟨b1, dgt_inj h0 n _ _ n1 hs (fun e he => ?_)⟩
    have hd := dgt_lt h0 s e
    rw [n2, b2, b2, if_pos rfl]
    by_cases h : e = n - 1 - p
    · rw [if_pos h, ← h]
      rcases hc with rfl | rfl <;> omega
    · rw [if_neg h, if_neg h]
  · obtain ⟨n1, n2⟩ := nxm_ok hc hr (show n - 1 - p < n by omega)
    obtain ⟨b1, b2⟩ := bef_ok hc n1 (show n - 1 - p < n by omega)
    refine ⟨n1, dgt_inj h0 n _ _ b1 hr (fun e he => ?_)⟩
    have hd := dgt_lt h0 r e
    rw [b2, n2, n2, if_pos rfl]
    by_cases h : e = n - 1 - p
    · rw [if_pos h, ← h]
      rcases hc with rfl | rfl <;> omega
    · rw [if_neg h, if_neg h]
theorem rv_nx {c n r k : Nat} (hc : c = 2 ∨ c = 3) (hr : r < c ^ n) (hk : k < n) : rv c n (nxm c r k) = nxm c (rv c n r) (n - 1 - k) := by
  have h0 : 0 < c := by omega
  have hv := rv_lt h0 n r hr
  obtain ⟨n1, n2⟩ := nxm_ok hc hr hk
  obtain ⟨m1, m2⟩ := nxm_ok hc hv (show n - 1 - k < n by omega)
  refine dgt_inj h0 n _ _ (rv_lt h0 n _ n1) m1 (fun e he => ?_)
  rw [dgt_rv h0 n _ e n1 he, n2, m2, dgt_rv h0 n r _ hr (show n - 1 - k < n by omega), dgt_rv h0 n r e hr he]
  by_cases h : e = n - 1 - k
  · rw [if_pos h, if_pos (by omega), show n - 1 - (n - 1 - k) = k by omega]
  · rw [if_neg h, if_neg (by omega)]
