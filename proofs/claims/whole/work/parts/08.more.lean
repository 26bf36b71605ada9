theorem if_p {α : Type} {c : Prop} (dc : Decidable c) {a b : α} {z : α} (h : c) (hp : @ite α c dc a b = z) : a = z := by rw [if_pos h] at hp; exact hp
theorem if_n {α : Type} {c : Prop} (dc : Decidable c) {a b : α} {z : α} (h : ¬ c) (hp : @ite α c dc a b = z) : b = z := by rw [if_neg h] at hp; exact hp
theorem lk_default : ∀ (ps : List (Int × Int)) (d x : Int), (∀ q ∈ ps, ¬ x = q.1) → Op.lookupswitch.offset ps d x = d
  | [], _, _, _ => rfl
  | q :: r, d, x, h => by
    obtain ⟨a, o⟩ := q
    have h1 : ¬ x = a := h _ List.mem_cons_self
    have h2 := lk_default r d x (fun q hq => h q (List.mem_cons_of_mem _ hq))
    unfold Op.lookupswitch.offset
    have h3 : ¬ a = x := fun e => h1 e.symm
    simp [h1, h2, h3]
section ROWS3
variable {p : Program} {l : Launch} {e : Env} {R : Room} {s : State} {m : MethodId} {args : Array Value} {below : List Frame} {meth : Method} {c : Code} {H : Heap} {locs : List Loc} {cells slots : Nat} {Q : State → Prop}
variable {cc : ByteArray} {pc : Nat} {ls : Array Slot} {rest : List Value} {K : Kt} {h : Hp} {nL : Nat} {own : String} {ρ : Type} {z : ρ}
theorem w_rem (C : CX K p m c cc nL s args own) {x y : Int32} (hdg : decode cc pc = .ok (.irem, 1)) (hne : ¬ y = 0) (k : W p l e R s m args below meth c H locs cells slots Q (F0 m (pc + 1) ls (.int (jrem x y) :: rest))) : W p l e R s m args below meth c H locs cells slots Q (F0 m pc ls (.int y :: .int x :: rest)) := lv_irem C.1 C.2.1 hdg hne k
theorem w_shl (C : CX K p m c cc nL s args own) {x y : Int32} (hdg : decode cc pc = .ok (.ishl, 1)) (k : W p l e R s m args below meth c H locs cells slots Q (F0 m (pc + 1) ls (.int (jshl x y) :: rest))) : W p l e R s m args below meth c H locs cells slots Q (F0 m pc ls (.int y :: .int x :: rest)) := lv_ishl C.1 C.2.1 hdg k
theorem w_shr (C : CX K p m c cc nL s args own) {x y : Int32} (hdg : decode cc pc = .ok (.ishr, 1)) (k : W p l e R s m args below meth c H locs cells slots Q (F0 m (pc + 1) ls (.int (jshr x y) :: rest))) : W p l e R s m args below meth c H locs cells slots Q (F0 m pc ls (.int y :: .int x :: rest)) := lv_ishr C.1 C.2.1 hdg k
theorem w_ushr (C : CX K p m c cc nL s args own) {x y : Int32} (hdg : decode cc pc = .ok (.iushr, 1)) (k : W p l e R s m args below meth c H locs cells slots Q (F0 m (pc + 1) ls (.int (jushr x y) :: rest))) : W p l e R s m args below meth c H locs cells slots Q (F0 m pc ls (.int y :: .int x :: rest)) := lv_iushr C.1 C.2.1 hdg rfl k
theorem w_istn (C : CX K p m c cc nL s args own) {k : Fin 4} {i : Nat} {x : Int32} {f : Int32 → Option ρ} {lv : List (Nat × Value)} (lv' : Int32 → List (Nat × Value)) (hdg : decode cc pc = .ok (.istore_n k, 1)) (hi : (k : Nat) = i) (hl : lv_has ls nL lv) (hn : i < nL) (hlv : ∀ v, (i, Value.int v) :: lv.filter (fun q => !(q.1 == i) && !(q.1 + 1 == i && q.2.category == 2)) = lv' v) (hp : lt x f = some z)
    (kk : ∀ (v : Int32) (ls' : Array Slot), lv_has ls' nL (lv' v) → f v = some z → W p l e R s m args below meth c H locs cells slots Q (F0 m (pc + 1) ls' rest)) : W p l e R s m args below meth c H locs cells slots Q (F0 m pc ls (.int x :: rest)) :=
  lv_istore_n C.1 C.2.1 hdg hi hl hn (hlv x) (fun ls' hl' => kk x ls' hl' hp)
theorem w_ist (C : CX K p m c cc nL s args own) {i : Nat} {x : Int32} {f : Int32 → Option ρ} {lv : List (Nat × Value)} (lv' : Int32 → List (Nat × Value)) (hdg : decode cc pc = .ok (.istore i, 2)) (hl : lv_has ls nL lv) (hn : i < nL) (hlv : ∀ v, (i, Value.int v) :: lv.filter (fun q => !(q.1 == i) && !(q.1 + 1 == i && q.2.category == 2)) = lv' v) (hp : lt x f = some z)
    (kk : ∀ (v : Int32) (ls' : Array Slot), lv_has ls' nL (lv' v) → f v = some z → W p l e R s m args below meth c H locs cells slots Q (F0 m (pc + 2) ls' rest)) : W p l e R s m args below meth c H locs cells slots Q (F0 m pc ls (.int x :: rest)) :=
  lv_istore C.1 C.2.1 hdg hl hn (hlv x) (fun ls' hl' => kk x ls' hl' hp)
theorem w_inc (C : CX K p m c cc nL s args own) {i k : Nat} {n : Int} {x y : Int32} {f : Int32 → Option ρ} {lv : List (Nat × Value)} (lv' : Int32 → List (Nat × Value)) (hdg : decode cc pc = .ok (.iinc i n, 3)) (hl : lv_has ls nL lv) (hk : lv[k]? = some (i, .int x)) (hv : x + Int32.ofInt n = y) (hn : i < nL) (hlv : ∀ v, (i, Value.int v) :: lv.filter (fun q => !(q.1 == i) && !(q.1 + 1 == i && q.2.category == 2)) = lv' v) (hp : lt y f = some z)
    (kk : ∀ (v : Int32) (ls' : Array Slot), lv_has ls' nL (lv' v) → f v = some z → W p l e R s m args below meth c H locs cells slots Q (F0 m (pc + 3) ls' rest)) : W p l e R s m args below meth c H locs cells slots Q (F0 m pc ls rest) :=
  lv_iinc C.1 C.2.1 hdg hl hk hv hn (hlv y) (fun ls' hl' => kk y ls' hl' hp)
theorem w_nn {r : Option Nat} {A : Option ρ} {B : Nat → Option ρ} (hp : nn r A B = some z)
    (k0 : A = some z → W p l e R s m args below meth c H locs cells slots Q (F0 m pc ls (.null :: rest)))
    (k1 : ∀ q, B q = some z → W p l e R s m args below meth c H locs cells slots Q (F0 m pc ls (.ref (K.1 + q) :: rest))) : W p l e R s m args below meth c H locs cells slots Q (F0 m pc ls (va_rf (r.map (fun q => K.1 + q)) :: rest)) := by
  cases r with
  | none => exact k0 hp
  | some q => exact k1 q hp
theorem w_tsC (C : CX K p m c cc nL s args own) {dflt lo hi : Int} {offs : Array Int} {len : Nat} {x k : Int32} {off : Int} {tgt : Nat} (hdg : decode cc pc = .ok (.tableswitch dflt lo hi offs, len)) (hx : x = k) (h1 : ¬ k.toInt < lo) (h2 : ¬ hi < k.toInt) (ho : offs[(k.toInt - lo).toNat]? = some off) (ht : (pc : Int) + off = (tgt : Int))
    (kk : W p l e R s m args below meth c H locs cells slots Q (F0 m tgt ls rest)) : W p l e R s m args below meth c H locs cells slots Q (F0 m pc ls (.int x :: rest)) := by
  subst hx
  exact lv_tableIn C.1 C.2.1 hdg h1 h2 ho ht kk
theorem w_tsD (C : CX K p m c cc nL s args own) {dflt lo hi : Int} {offs : Array Int} {len : Nat} {x : Int32} {tgt : Nat} (ks : List Int32) (hdg : decode cc pc = .ok (.tableswitch dflt lo hi offs, len)) (hne : ∀ k ∈ ks, ¬ x = k) (hsz : (hi - lo).toNat < offs.size) (hall : ∀ j ∈ List.range offs.size, offs[j]? = some dflt ∨ ∃ k ∈ ks, k.toInt = lo + (j : Int)) (ht : (pc : Int) + dflt = (tgt : Int))
    (kk : W p l e R s m args below meth c H locs cells slots Q (F0 m tgt ls rest)) : W p l e R s m args below meth c H locs cells slots Q (F0 m pc ls (.int x :: rest)) := by
  by_cases h1 : x.toInt < lo
  · exact lv_tableOut C.1 C.2.1 hdg (Or.inl h1) ht kk
  by_cases h2 : hi < x.toInt
  · exact lv_tableOut C.1 C.2.1 hdg (Or.inr h2) ht kk
  rcases hall (x.toInt - lo).toNat (List.mem_range.mpr (by omega)) with ho | ⟨k, hk, he⟩
  · exact lv_tableIn C.1 C.2.1 hdg h1 h2 ho ht kk
  · exact absurd (Int32.toInt_inj.mp (by omega)) (hne k hk)
theorem w_lkC (C : CX K p m c cc nL s args own) {dflt : Int} {ps : Array (Int × Int)} {len : Nat} {x k : Int32} {off : Int} {tgt : Nat} (hdg : decode cc pc = .ok (.lookupswitch dflt ps, len)) (hs : (ps.toList.zip (ps.toList.drop 1)).all (fun (a, next) => a.1 < next.1) = true) (hx : x = k) (ho : Op.lookupswitch.offset ps.toList dflt k.toInt = off) (ht : (pc : Int) + off = (tgt : Int))
    (kk : W p l e R s m args below meth c H locs cells slots Q (F0 m tgt ls rest)) : W p l e R s m args below meth c H locs cells slots Q (F0 m pc ls (.int x :: rest)) := by
  subst hx
  exact lv_lookup C.1 C.2.1 hdg hs ho ht kk
theorem w_lkD (C : CX K p m c cc nL s args own) {dflt : Int} {ps : Array (Int × Int)} {len : Nat} {x : Int32} {tgt : Nat} (ks : List Int32) (hdg : decode cc pc = .ok (.lookupswitch dflt ps, len)) (hs : (ps.toList.zip (ps.toList.drop 1)).all (fun (a, next) => a.1 < next.1) = true) (hne : ∀ k ∈ ks, ¬ x = k) (hall : ∀ q ∈ ps.toList, ∃ k ∈ ks, k.toInt = q.1) (ht : (pc : Int) + dflt = (tgt : Int))
    (kk : W p l e R s m args below meth c H locs cells slots Q (F0 m tgt ls rest)) : W p l e R s m args below meth c H locs cells slots Q (F0 m pc ls (.int x :: rest)) := by
  refine lv_lookup C.1 C.2.1 hdg hs (lk_default _ _ _ (fun q hq he => ?_)) ht kk
  obtain ⟨k, hk, hke⟩ := hall q hq
  exact hne k hk (Int32.toInt_inj.mp (by omega))
end ROWS3
