/-! THE WHOLE HEAP AS ONE PICTURE: places 0, 1, .. are the objects and arrays in the order in which the law makes them (place p lies at address b0 + p); ints and references by (place, field or index). -/
abbrev Hp : Type := Nat × ((Nat → Nat → Int32) × (Nat → Nat → Option Nat))
/-- what lies at a place: (number of its class in cls, fields), (7, length) an int array, (8, length) an array of goers -/
def SH : Nat → Nat × Nat := fun p => match p with
  | 0 => (5, 9) | 1 => (3, 9) | 2 => (7, 64) | 3 => (7, 3) | 4 => (7, 12)
  | 5 => (0, 11) | 6 => (8, 7) | 7 => (7, 10) | 8 => (0, 11) | 9 => (8, 7) | 10 => (7, 10) | 11 => (0, 11) | 12 => (8, 7) | 13 => (7, 10)
  | 14 => (4, 6) | 15 => (7, 2187) | 16 => (7, 7) | 17 => (7, 13) | 18 => (1, 4) | 19 => (7, 2187) | 20 => (7, 2187) | 21 => (7, 2187)
  | 22 => (7, 13) | 23 => (7, 7) | 24 => (6, 16) | 25 => (7, 7) | 26 => (7, 79) | 27 => (7, 79) | 28 => (7, 79) | 29 => (7, 64) | 30 => (7, 12)
  | 31 => (7, 13) | 32 => (7, 13) | 33 => (7, 12) | 34 => (7, 2187)
  | _ => (2, 4)
abbrev Kt : Type := Nat × (va_G × (ClassId × (ClassId × Nat)))
abbrev KA (K : Kt) : Nat → Prop := fun q => K.1 ≤ q
def isRef (ci k : Nat) : Bool := match FY ci k with
  | .object _ => true
  | .array _ => true
  | _ => false
def fv (b0 : Nat) (h : Hp) (p c k : Nat) : Value := if isRef c k then va_rf ((h.2.2 p k).map (fun q => b0 + q)) else .int (h.2.1 p k)
def cellE (K : Kt) (h : Hp) (p : Nat) : va_E :=
  if (SH p).1 < 7 then .inr ((SH p).1, (List.range (FN (SH p).1)).map (fv K.1 h p (SH p).1))
  else if (SH p).1 = 7 then .inl (K.2.2.1, (SH p).2, .inl (h.2.1 p))
  else .inl (K.2.2.2.1, (SH p).2, .inr (.inr (.inr (.inr (fun j => (h.2.2 p j).map (fun q => K.1 + q))))))
def wsH (K : Kt) (h : Hp) : va_W := (List.range h.1).map (fun p => (K.1 + p, cellE K h p))
abbrev tysK (K : Kt) : List (ClassId × FieldType) := [(K.2.2.1, .int), (K.2.2.2.1, .object "TurnsMultiples$Goer")]
def upd2 {α : Type} (f : Nat → Nat → α) (p k : Nat) (v : α) : Nat → Nat → α := fun q j => if q = p ∧ j = k then v else f q j
theorem upd2_at {α : Type} (f : Nat → Nat → α) (p k : Nat) (v : α) : upd2 f p k v p k = v := by simp [upd2]
theorem upd2_ne {α : Type} (f : Nat → Nat → α) {p k q j : Nat} (v : α) (h : ¬ (q = p ∧ j = k)) : upd2 f p k v q j = f q j := by simp [upd2, h]
theorem upd2_row {α : Type} (f : Nat → Nat → α) {p k q : Nat} (v : α) (h : q ≠ p) : upd2 f p k v q = f q := by funext j; simp [upd2, h]
theorem rg_set {α : Type} (n k : Nat) (g g' : Nat → α) (v : α) (h1 : g' k = v) (h2 : ∀ j, j ≠ k → g' j = g j) : ((List.range n).map g).set k v = (List.range n).map g' := by
  apply List.ext_getElem?
  intro i
  by_cases hi : i = k
  · subst hi
    by_cases hn : i < n
    · rw [List.getElem?_set_self (by simpa using hn)]
      simp [hn, h1]
    · rw [List.getElem?_eq_none (by simpa using hn), List.getElem?_eq_none (by simpa using hn)]
  · rw [List.getElem?_set_ne (Ne.symm hi)]
    by_cases hn : i < n
    · simp [hn, h2 i hi]
    · rw [List.getElem?_eq_none (by simpa using hn), List.getElem?_eq_none (by simpa using hn)]
theorem wsH_at (K : Kt) {h : Hp} {p : Nat} (hp : p < h.1) : (wsH K h)[p]? = some (K.1 + p, cellE K h p) := by simp [wsH, hp]
theorem wsH_some {K : Kt} {h : Hp} {i : Nat} {q : Nat × va_E} (hq : (wsH K h)[i]? = some q) : i < h.1 ∧ q = (K.1 + i, cellE K h i) := by
  have hl : i < h.1 := by
    have := (List.getElem?_eq_some_iff.mp hq).1
    simpa [wsH] using this
  rw [wsH_at K hl] at hq
  exact ⟨hl, (Option.some.inj hq).symm⟩
theorem wsH_D (K : Kt) (h : Hp) : va_D (KA K) (wsH K h) := by
  refine ⟨fun i j p q hp hq hpq => ?_, fun k q hk => ?_⟩
  · obtain ⟨-, rfl⟩ := wsH_some hp
    obtain ⟨-, rfl⟩ := wsH_some hq
    exact Nat.add_left_cancel hpq
  · obtain ⟨-, rfl⟩ := wsH_some hk
    exact Nat.le_add_right _ _
theorem wsH_set {K : Kt} {h h' : Hp} {p : Nat} {e : va_E} (hn : h'.1 = h.1) (he : cellE K h' p = e) (ho : ∀ q, q ≠ p → cellE K h' q = cellE K h q) : (wsH K h).set p (K.1 + p, e) = wsH K h' := by
  unfold wsH
  rw [hn]
  exact rg_set _ _ _ _ _ (by rw [he]) (fun j hj => by rw [ho j hj])
theorem wsH_push {K : Kt} {h h' : Hp} {e : va_E} (hn : h'.1 = h.1 + 1) (he : cellE K h' h.1 = e) (ho : ∀ q, q < h.1 → cellE K h' q = cellE K h q) : wsH K h ++ [(K.1 + h.1, e)] = wsH K h' := by
  unfold wsH
  rw [hn, List.range_succ, List.map_append]
  congr 1
  · apply List.map_congr_left
    intro q hq
    rw [ho q (List.mem_range.mp hq)]
  · simp [he]
theorem cell_obj {K : Kt} {h : Hp} {p ci : Nat} (hs : (SH p).1 = ci) (hc : ci < 7) : cellE K h p = .inr (ci, (List.range (FN ci)).map (fv K.1 h p ci)) := by
  subst hs
  simp [cellE, hc]
theorem cell_int {K : Kt} {h : Hp} {p : Nat} (hs : (SH p).1 = 7) : cellE K h p = .inl (K.2.2.1, (SH p).2, .inl (h.2.1 p)) := by
  simp [cellE, hs]
theorem cell_ref {K : Kt} {h : Hp} {p : Nat} (hs : (SH p).1 = 8) : cellE K h p = .inl (K.2.2.2.1, (SH p).2, .inr (.inr (.inr (.inr (fun j => (h.2.2 p j).map (fun q => K.1 + q)))))) := by
  simp [cellE, hs]
theorem cell_ints {K : Kt} {h h' : Hp} {q : Nat} (h1 : h'.2.1 q = h.2.1 q) (h2 : h'.2.2 q = h.2.2 q) : cellE K h' q = cellE K h q := by
  have e : ∀ c k, fv K.1 h' q c k = fv K.1 h q c k := fun c k => by simp [fv, h1, h2]
  have e2 : ∀ c, fv K.1 h' q c = fv K.1 h q c := fun c => funext (e c)
  simp [cellE, e2, h1, h2]
-- ===== what the abstract program may do: each is one instruction that looks at the heap =====
section COMB
variable {α : Type}
/-- an int field -/
def gi (h : Hp) (p ci k : Nat) (f : Int32 → Option α) : Option α := if p < h.1 ∧ (SH p).1 = ci then f (h.2.1 p k) else none
/-- a field that holds a reference -/
def gr (h : Hp) (p ci k : Nat) (f : Nat → Option α) : Option α := if p < h.1 ∧ (SH p).1 = ci then (match h.2.2 p k with
  | some q => f q
  | none => none) else none
def pi (h : Hp) (p ci k : Nat) (v : Int32) (f : Hp → Option α) : Option α := if p < h.1 ∧ (SH p).1 = ci then f (h.1, upd2 h.2.1 p k v, h.2.2) else none
def pr (h : Hp) (p ci k : Nat) (v : Nat) (f : Hp → Option α) : Option α := if p < h.1 ∧ (SH p).1 = ci then f (h.1, h.2.1, upd2 h.2.2 p k (some v)) else none
def al (h : Hp) (p : Nat) (i : Int32) (f : Int32 → Option α) : Option α := if p < h.1 ∧ (SH p).1 = 7 ∧ ¬ i < 0 ∧ i.toNatClampNeg < (SH p).2 then f (h.2.1 p i.toNatClampNeg) else none
def as (h : Hp) (p : Nat) (i v : Int32) (f : Hp → Option α) : Option α := if p < h.1 ∧ (SH p).1 = 7 ∧ ¬ i < 0 ∧ i.toNatClampNeg < (SH p).2 then f (h.1, upd2 h.2.1 p i.toNatClampNeg v, h.2.2) else none
def ln (h : Hp) (p : Nat) (f : Int32 → Option α) : Option α := if p < h.1 ∧ ((SH p).1 = 7 ∨ (SH p).1 = 8) then f (Int32.ofNat (SH p).2) else none
def rl (h : Hp) (p : Nat) (i : Int32) (f : Option Nat → Option α) : Option α := if p < h.1 ∧ (SH p).1 = 8 ∧ ¬ i < 0 ∧ i.toNatClampNeg < (SH p).2 then f (h.2.2 p i.toNatClampNeg) else none
/-- null or a goer into an array of goers -/
def rs (h : Hp) (p : Nat) (i : Int32) (q : Option Nat) (f : Hp → Option α) : Option α := if p < h.1 ∧ (SH p).1 = 8 ∧ (¬ i < 0 ∧ i.toNatClampNeg < (SH p).2) ∧ (∀ v, q = some v → v < h.1 ∧ (SH v).1 = 2) then f (h.1, h.2.1, upd2 h.2.2 p i.toNatClampNeg q) else none
def nw (h : Hp) (ci : Nat) (f : Nat → Hp → Option α) : Option α := if (SH h.1).1 = ci then f h.1 (h.1 + 1, (fun q j => if q = h.1 then 0 else h.2.1 q j), (fun q j => if q = h.1 then none else h.2.2 q j)) else none
def na (h : Hp) (n : Int32) (f : Nat → Hp → Option α) : Option α := if (SH h.1).1 = 7 ∧ ¬ n < 0 ∧ n.toNatClampNeg = (SH h.1).2 then f h.1 (h.1 + 1, (fun q j => if q = h.1 then 0 else h.2.1 q j), (fun q j => if q = h.1 then none else h.2.2 q j)) else none
def nq (h : Hp) (n : Int32) (f : Nat → Hp → Option α) : Option α := if (SH h.1).1 = 8 ∧ ¬ n < 0 ∧ n.toNatClampNeg = (SH h.1).2 then f h.1 (h.1 + 1, (fun q j => if q = h.1 then 0 else h.2.1 q j), (fun q j => if q = h.1 then none else h.2.2 q j)) else none
/-- a divisor that isn't 0 -/
def nz (y : Int32) (r : Option α) : Option α := if y = 0 then none else r
/-- a boolean's value -/
def bz (y : Int32) (r : Option α) : Option α := if narrow .boolean (.int y) = .int y then r else none
def lt {β : Type} (v : β) (f : β → Option α) : Option α := f v
def ci {β : Type} (o : Option (β × Hp)) (f : β → Hp → Option α) : Option α := match o with
  | some z => f z.1 z.2
  | none => none
def cv (o : Option Hp) (f : Hp → Option α) : Option α := match o with
  | some z => f z
  | none => none
/-- the receiver of a call -/
def rc (h : Hp) (p c : Nat) (r : Option α) : Option α := if p < h.1 ∧ (SH p).1 = c then r else none
def KINDSf : Nat → Int32 := fun k => match k with
  | 0 => 109 | 1 => 100 | 2 => 98 | 3 => 101 | 4 => 120 | _ => 117
def kc (i : Int32) (f : Int32 → Option α) : Option α := if ¬ i < 0 ∧ i.toNatClampNeg < 6 then f (KINDSf i.toNatClampNeg) else none
def nn (o : Option Nat) (a : Option α) (b : Nat → Option α) : Option α := match o with
  | none => a
  | some q => b q
end COMB
def jrem (x y : Int32) : Int32 := x - x / y * y
def jushr (x y : Int32) : Int32 := (x.toUInt32 >>> (y.toUInt32 &&& Int32.toUInt32 31)).toInt32
def jshl (x y : Int32) : Int32 := x <<< (y &&& 31)
def jshr (x y : Int32) : Int32 := x >>> (y &&& 31)
/-- the loops' fuel: 40000, which nothing unfolds -/
noncomputable def FU : Nat := Classical.choose (⟨40000, rfl⟩ : ∃ n : Nat, n = 40000)
theorem FU_eq : FU = 40000 := Classical.choose_spec (⟨40000, rfl⟩ : ∃ n : Nat, n = 40000)
-- ===== the machine's side =====
def EX (K : Kt) (U : State) (H : Heap) : Prop := va_Z "TurnsMultiples$Letters" "KINDS" "[C" (.ref K.2.2.2.2) (KA K) U H ∧ va_T .char K.2.2.2.2 6 (fun j => .int (KINDSf j)) (KA K) U H
/-- what a method may take for granted -/
def WI (K : Kt) (h : Hp) (U : State) (H : Heap) : Prop := va_P K.2.1 cls (wsH K h) H ∧ H.size = K.1 + h.1 ∧ va_K K.2.1 cls (tysK K) U ∧ (∀ w ∈ NWL, va_Nw w U) ∧ va_AO "TurnsMultiples$Goer" U ∧ EX K U H
def WE (K : Kt) (h : Hp) (t : State) : Prop := va_P K.2.1 cls (wsH K h) t.heap ∧ t.heap.size = K.1 + h.1
def Pre (K : Kt) (av : List Value) (h : Hp) : Array Value → State → Prop := va_Pc av (fun U => WI K h U U.heap)
abbrev Qi (K : Kt) (r : Int32) (h : Hp) : Array Value → State → Outcome → State → Prop := va_Qi (fun (r' : Int32) (_ : Unit) => r' = r) (fun _ t => WE K h t) (KA K)
abbrev Qv (K : Kt) (h : Hp) : Array Value → State → Outcome → State → Prop := va_Qv (fun (_ : Unit) => True) (fun _ t => WE K h t) (KA K)
abbrev Qq (K : Kt) (r : Option Nat) (h : Hp) : Array Value → State → Outcome → State → Prop := va_Qq (fun (r' : Option Nat) (_ : Unit) => r' = r.map (fun q => K.1 + q)) (fun _ t => WE K h t) (KA K)
/-- a method's contract, over the whole heap -/
def CT (l : Launch) (K : Kt) (y : MethodName) (b : ByteArray) (maxL : Nat) (ret : Option FieldType) (rm : Room) (av : List Value) (h : Hp) (Q : Array Value → State → Outcome → State → Prop) : Prop :=
  Met l y (Cond.code y b maxL ret :: TBg) rm (Pre K av h) Q rm.cells rm.slots (KA K)
theorem gi_words {b : ByteArray} {y y' : MethodName} {b' : ByteArray} {n n' : Nat} {r r' : Option FieldType} (h : Cond.code y' b' n' r' ∈ TBg) : GoodIn (Cond.code y b n r :: TBg) (Cond.code y' b' n' r' :: TBg) := by
  intro w hw
  rcases List.mem_cons.mp hw with rfl | hw
  · exact ⟨List.mem_cons_of_mem _ h, (tb_good h).2⟩
  · exact ⟨List.mem_cons_of_mem _ hw, (tb_good hw).2⟩
theorem gl_words {y' : MethodName} {b' : ByteArray} {n' : Nat} {r' : Option FieldType} (h : Cond.code y' b' n' r' ∈ TBg) : GoodIn TBg (Cond.code y' b' n' r' :: TBg) := by
  intro w hw
  rcases List.mem_cons.mp hw with rfl | hw
  · exact ⟨h, (tb_good h).2⟩
  · exact ⟨hw, (tb_good hw).2⟩
/-- what holds in a method's body all along -/
def CX (K : Kt) (p : Program) (m : MethodId) (c : Code) (cc : ByteArray) (nL : Nat) (s : State) (args : Array Value) (own : String) : Prop :=
  p.tables.exec = Jvm.exec ∧ c.code = cc ∧ c.maxLocals = nL ∧ s.vm.findClass own = some m.cls ∧ (∀ w ∈ TBg, w.before args s = true) ∧ va_K K.2.1 cls (tysK K) s ∧ (∀ w ∈ NWL, va_Nw w s) ∧ va_AO "TurnsMultiples$Goer" s ∧ EX K s s.heap ∧ K.1 ≤ s.heap.size
/-- the heap of now -/
def HX (K : Kt) (H0 H : Heap) (locs : List Loc) (h : Hp) : Prop := va_P K.2.1 cls (wsH K h) H ∧ H.size = K.1 + h.1 ∧ va_S (KA K) H0 H locs
