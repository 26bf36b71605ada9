theorem hx_set {K : Kt} {H0 H H' : Heap} {locs : List Loc} {h h' : Hp} {p k : Nat} {e : va_E} (X : HX K H0 H locs h) (hp : p < h.1) (hn : h'.1 = h.1) (hc : cellE K h' p = e) (ho : ∀ q, q ≠ p → cellE K h' q = cellE K h q) (hat : va_at K.2.1 cls (K.1 + p, e) H') (e2 : H'.size = H.size) (e3 : ∀ q : Nat, q ≠ K.1 + p → H'[q]? = H[q]?) : HX K H0 H' (locs ++ [⟨K.1 + p, k⟩]) h' :=
  ⟨by rw [← wsH_set hn hc ho]; exact X.1.set (wsH_D K h) (wsH_at K hp) hat e3, by rw [e2, X.2.1, hn], X.2.2.put e2 e3 (Nat.le_add_right _ _)⟩
theorem hx_push {K : Kt} {H0 H H' : Heap} {locs : List Loc} {h h' : Hp} {e : va_E} (X : HX K H0 H locs h) (hn : h'.1 = h.1 + 1) (hc : cellE K h' h.1 = e) (ho : ∀ q, q < h.1 → cellE K h' q = cellE K h q) (hat : va_at K.2.1 cls (K.1 + h.1, e) H') (e2 : H'.size = H.size + 1) (e3 : ∀ q : Nat, q < H.size → H'[q]? = H[q]?) : HX K H0 H' locs h' := by
  have hk : ∀ (k : Nat) (x : Nat × va_E), (wsH K h)[k]? = some x → H'[x.1]? = H[x.1]? := fun k x hx => e3 x.1 ((X.1 k x hx).lt)
  refine ⟨?_, by rw [e2, X.2.1, hn]; omega, Nat.le_trans X.2.2.1 (by omega), fun x h1 h2 => (e3 x (Nat.lt_of_lt_of_le h1 X.2.2.1)).trans (X.2.2.2.1 x h1 h2), X.2.2.2.2⟩
  rw [← wsH_push hn hc ho]
  refine (X.1.kept hk).app (fun k x hx => ?_)
  have hz : k < 1 := (List.getElem?_eq_some_iff.mp hx).1
  rw [show k = 0 by omega] at hx
  cases hx
  exact hat
theorem vpV_map {N : Nat} {g : Nat → Value} {j : Nat} (hj : j < N) : vp_V ((List.range N).map g) j = g j := by
  simp [vp_V, List.getD, hj]
section ROWS
variable {p : Program} {l : Launch} {e : Env} {R : Room} {s : State} {m : MethodId} {args : Array Value} {below : List Frame} {meth : Method} {c : Code} {H : Heap} {locs : List Loc} {cells slots : Nat} {Q : State → Prop}
variable {cc : ByteArray} {pc : Nat} {ls : Array Slot} {rest : List Value} {K : Kt} {h : Hp} {nL : Nat} {own : String} {ρ : Type} {z : ρ}
theorem cls_of {c0 : Nat} (hc : c0 < 7) : cls[c0]? = some (FC c0, FT c0, FN c0) := cls_at c0 hc
theorem w_gi (C : CX K p m c cc nL s args own) (X : HX K s.heap H locs h) {pp idx c0 k : Nat} {f : Int32 → Option ρ} (hF : FLD own idx c0 k) (hr : isRef c0 k = false) (hdg : decode cc pc = .ok (.getfield idx, 3)) (hp : gi h pp c0 k f = some z)
    (kk : ∀ v, f v = some z → W p l e R s m args below meth c H locs cells slots Q (F0 m (pc + 3) ls (.int v :: rest))) : W p l e R s m args below meth c H locs cells slots Q (F0 m pc ls (.ref (K.1 + pp) :: rest)) := by
  obtain ⟨hx, hb, -, hown, hts, hK, hN, -⟩ := C
  unfold gi at hp
  split at hp
  next hc =>
    obtain ⟨h7, hk, hl⟩ := hF
    have he : (wsH K h)[pp]? = some (K.1 + pp, .inr (c0, (List.range (FN c0)).map (fv K.1 h pp c0))) := by rw [wsH_at K hc.1, cell_obj hc.2 h7]
    have hv : ((List.range (FN c0)).map (fv K.1 h pp c0))[k]? = some (.int (h.2.1 pp k)) := by simp [hk, fv, hr]
    rcases hl with hl | ⟨host, hl⟩
    · exact va_get hx hb hts (fw_at c0 h7) hown hK X.1 pp he (cls_at c0 h7) k hk (hts _ hl) (fun _ h9 => h9) hv hdg (kk _ hp)
    · exact va_getN hx hb hts (fw_at c0 h7) hown hK X.1 pp he (cls_at c0 h7) k hk (va_Nw.use rfl (hN _ hl)) (fun _ h9 => h9) hv hdg (kk _ hp)
  next => cases hp
theorem w_gr (C : CX K p m c cc nL s args own) (X : HX K s.heap H locs h) {pp idx c0 k : Nat} {f : Nat → Option ρ} (hF : FLD own idx c0 k) (hr : isRef c0 k = true) (hdg : decode cc pc = .ok (.getfield idx, 3)) (hp : gr h pp c0 k f = some z)
    (kk : ∀ q, f q = some z → W p l e R s m args below meth c H locs cells slots Q (F0 m (pc + 3) ls (.ref (K.1 + q) :: rest))) : W p l e R s m args below meth c H locs cells slots Q (F0 m pc ls (.ref (K.1 + pp) :: rest)) := by
  obtain ⟨hx, hb, -, hown, hts, hK, hN, -⟩ := C
  unfold gr at hp
  split at hp
  next hc =>
    split at hp
    next q hq =>
      obtain ⟨h7, hk, hl⟩ := hF
      have he : (wsH K h)[pp]? = some (K.1 + pp, .inr (c0, (List.range (FN c0)).map (fv K.1 h pp c0))) := by rw [wsH_at K hc.1, cell_obj hc.2 h7]
      have hv : ((List.range (FN c0)).map (fv K.1 h pp c0))[k]? = some (.ref (K.1 + q)) := by simp [hk, fv, hr, hq, va_rf]
      rcases hl with hl | ⟨host, hl⟩
      · exact va_get hx hb hts (fw_at c0 h7) hown hK X.1 pp he (cls_at c0 h7) k hk (hts _ hl) (fun _ h9 => h9) hv hdg (kk _ hp)
      · exact va_getN hx hb hts (fw_at c0 h7) hown hK X.1 pp he (cls_at c0 h7) k hk (va_Nw.use rfl (hN _ hl)) (fun _ h9 => h9) hv hdg (kk _ hp)
    next => cases hp
  next => cases hp
/-- what a write into a field leaves -/
theorem put_at (C : CX K p m c cc nL s args own) (X : HX K s.heap H locs h) {pp c0 k : Nat} (hpp : pp < h.1) (hs : (SH pp).1 = c0) (h7 : c0 < 7) (hk : k < FN c0) {v : Value} {h' : Hp} (hn1 : h'.1 = h.1) (hv : fv K.1 h' pp c0 k = v) (ho : ∀ j, j ≠ k → fv K.1 h' pp c0 j = fv K.1 h pp c0 j) (hq : ∀ q, q ≠ pp → cellE K h' q = cellE K h q) {cell : Cell} (q1 : H[K.1 + pp]? = some cell) (q2 : cell.cls = K.2.1.1 c0) (q3 : cell.vm = .none) (q4 : ∀ j, j < FN c0 → cell.slots[K.2.1.2 c0 j]? = some (fv K.1 h pp c0 j))
    {H' : Heap} (e1 : H'[K.1 + pp]? = some (cell.setSlot (K.2.1.2 c0 k) v)) (e2 : H'.size = H.size) (e3 : ∀ q, q ≠ K.1 + pp → H'[q]? = H[q]?) : HX K s.heap H' (locs ++ [⟨K.1 + pp, K.2.1.2 c0 k⟩]) h' := by
  obtain ⟨hx, hb, -, hown, hts, hK, hN, -⟩ := C
  have hap := va_apart (own := own) hts (fw_at c0 h7) (FY c0) (fp_at c0 h7) (fn_at c0 h7) hK (cls_at c0 h7)
  refine hx_set X hpp hn1 (cell_obj hs h7) hq ⟨_, cls_at c0 h7, ?_⟩ e2 e3
  refine t_OB.to (V := updV (fv K.1 h pp c0) k v) ⟨_, e1, q2, q3, t_set q4 hap hk v⟩ (fun j hj => ?_)
  show _ = vp_V ((List.range (FN c0)).map (fv K.1 h' pp c0)) j
  rw [vpV_map hj]
  by_cases hjk : j = k
  · subst hjk
    simp [updV, hv]
  · simp [updV, hjk, ho j hjk]
theorem obj_at (C : CX K p m c cc nL s args own) (X : HX K s.heap H locs h) {pp c0 : Nat} (hpp : pp < h.1) (hs : (SH pp).1 = c0) (h7 : c0 < 7) : ∃ cell : Cell, H[K.1 + pp]? = some cell ∧ cell.cls = K.2.1.1 c0 ∧ cell.vm = .none ∧ ∀ j, j < FN c0 → cell.slots[K.2.1.2 c0 j]? = some (fv K.1 h pp c0 j) := by
  have he : (wsH K h)[pp]? = some (K.1 + pp, .inr (c0, (List.range (FN c0)).map (fv K.1 h pp c0))) := by rw [wsH_at K hpp, cell_obj hs h7]
  obtain ⟨r, h1, cell, q1, q2, q3, q4⟩ := X.1 pp _ he
  have hr : r = (FC c0, FT c0, FN c0) := Option.some.inj (h1.symm.trans (cls_at c0 h7))
  subst hr
  exact ⟨cell, q1, q2, q3, fun j hj => by rw [q4 j hj]; exact congrArg some (vpV_map hj)⟩
theorem w_put (C : CX K p m c cc nL s args own) (X : HX K s.heap H locs h) {pp idx c0 k : Nat} (hF : FLD own idx c0 k) (hfin : (FT c0 k).2.2.2 = false) {v : Value} (hn : narrow (FY c0 k) v = v) (hfit : fits (FY c0 k) v = true) (hdg : decode cc pc = .ok (.putfield idx, 3)) (hpp : pp < h.1) (hs : (SH pp).1 = c0)
    {h' : Hp} (hn1 : h'.1 = h.1) (hv : fv K.1 h' pp c0 k = v) (ho : ∀ j, j ≠ k → fv K.1 h' pp c0 j = fv K.1 h pp c0 j) (hq : ∀ q, q ≠ pp → cellE K h' q = cellE K h q)
    (kk : ∀ (H1 : Heap) (locs1 : List Loc), HX K s.heap H1 locs1 h' → W p l e R s m args below meth c H1 locs1 cells slots Q (F0 m (pc + 3) ls rest)) : W p l e R s m args below meth c H locs cells slots Q (F0 m pc ls (v :: .ref (K.1 + pp) :: rest)) := by
  obtain ⟨h7, hk, hl⟩ := hF
  obtain ⟨cell, q1, q2, q3, q4⟩ := obj_at C X hpp hs h7
  have P := fun (H' : Heap) => put_at C X hpp hs h7 hk hn1 hv ho hq q1 q2 q3 q4 (H' := H')
  obtain ⟨hx, hb, -, hown, hts, hK, hN, -⟩ := C
  obtain ⟨hS, hfc, kC, hkC, hkind⟩ := hK.1 c0 _ (cls_at c0 h7)
  obtain ⟨cf, kf, fi, f, hi, hsl⟩ := hS k hk
  have hlay := hts _ (fw_at c0 h7 _ (u_in_lay hk))
  unfold u_lay at hlay
  rw [if_neg (by rw [hfin]; decide)] at hlay
  have hst := (u_facts hfc hkC (u_lays hts (fw_at c0 h7) hk) hi).1
  have h6 := u_store hfc hkC hkind hlay hi (fp_at c0 h7 k hk) hn hfit
  have hlt : f.slot < cell.slots.size := by rw [hsl]; exact k2_hasslot (q4 k hk)
  rcases hl with hl | ⟨host, hl⟩
  · refine W.putK hx hb (f := f) ⟨hown, hts _ hl, ⟨_, _, _, hi⟩, hst⟩ (by rw [q2]; exact h6) q1 q3 hlt rfl rfl hdg fun H' e1 e2 e3 => ?_
    rw [hsl] at e1 ⊢
    exact kk H' _ (P H' e1 e2 e3)
  · refine va_WputK hx hb (f := f) hown (va_Nw.use rfl (hN _ hl)) hi hst (by rw [q2]; exact h6) q1 q3 hlt rfl rfl hdg fun H' e1 e2 e3 => ?_
    rw [hsl] at e1 ⊢
    exact kk H' _ (P H' e1 e2 e3)
theorem w_putF (C : CX K p m c cc nL s args own) (X : HX K s.heap H locs h) {pp idx c0 k : Nat} (hF : FLD own idx c0 k) (hfin : (FT c0 k).2.2.2 = true) (hin : meth.name = "<init>") (hdecl : (FT c0 k).1 = own) (hlk : Cond.fieldLink own idx (FT c0 k).1 (FT c0 k).2.1 (FT c0 k).2.2.1 ∈ TBg) {v : Value} (hn : narrow (FY c0 k) v = v) (hfit : fits (FY c0 k) v = true) (hdg : decode cc pc = .ok (.putfield idx, 3)) (hpp : pp < h.1) (hs : (SH pp).1 = c0)
    {h' : Hp} (hn1 : h'.1 = h.1) (hv : fv K.1 h' pp c0 k = v) (ho : ∀ j, j ≠ k → fv K.1 h' pp c0 j = fv K.1 h pp c0 j) (hq : ∀ q, q ≠ pp → cellE K h' q = cellE K h q)
    (kk : ∀ (H1 : Heap) (locs1 : List Loc), HX K s.heap H1 locs1 h' → W p l e R s m args below meth c H1 locs1 cells slots Q (F0 m (pc + 3) ls rest)) : W p l e R s m args below meth c H locs cells slots Q (F0 m pc ls (v :: .ref (K.1 + pp) :: rest)) := by
  obtain ⟨h7, hk, -⟩ := hF
  obtain ⟨cell, q1, q2, q3, q4⟩ := obj_at C X hpp hs h7
  have P := fun (H' : Heap) => put_at C X hpp hs h7 hk hn1 hv ho hq q1 q2 q3 q4 (H' := H')
  obtain ⟨hx, hb, -, hown, hts, hK, hN, -⟩ := C
  obtain ⟨hS, hfc, kC, hkC, hkind⟩ := hK.1 c0 _ (cls_at c0 h7)
  obtain ⟨cf, kf, fi, f, hi, hsl⟩ := hS k hk
  have hlay := hts _ (fw_at c0 h7 _ (u_in_lay hk))
  unfold u_lay at hlay
  rw [if_pos hfin] at hlay
  have hst := (u_facts hfc hkC (u_lays hts (fw_at c0 h7) hk) hi).1
  have hcf : m.cls = cf := by
    obtain ⟨_, _, c', _, _, _, -, -, hf', -, -, -, hown2, -⟩ := Cond.laysFinal_spec hlay
    have e1 : c' = cf := by have := hi.symm.trans hf'; simp at this; exact this.1.symm
    rw [hdecl] at hown2
    rw [← e1]; exact Option.some.inj (hown.symm.trans hown2)
  have h6 := u_fits hfc hkC hkind (Or.inr hlay) hi (fp_at c0 h7 k hk) hn hfit
  refine W.putFinK hx hb hown (hts _ hlk) hi hst hcf hin (by rw [q2]; exact h6) q1 q3 (by rw [hsl]; exact k2_hasslot (q4 k hk)) rfl rfl hdg fun H' e1 e2 e3 => ?_
  rw [hsl] at e1 ⊢
  exact kk H' _ (P H' e1 e2 e3)
theorem fv_pi {b0 : Nat} {h : Hp} {pp c0 k : Nat} {v : Int32} (hr : isRef c0 k = false) : fv b0 (h.1, upd2 h.2.1 pp k v, h.2.2) pp c0 k = .int v := by simp [fv, hr, upd2]
theorem fv_pin {b0 : Nat} {h : Hp} {pp c0 k j : Nat} {v : Int32} (hj : j ≠ k) : fv b0 (h.1, upd2 h.2.1 pp k v, h.2.2) pp c0 j = fv b0 h pp c0 j := by simp [fv, upd2, hj]
theorem ce_pi {h : Hp} {pp k q : Nat} {v : Int32} (hq : q ≠ pp) : cellE K (h.1, upd2 h.2.1 pp k v, h.2.2) q = cellE K h q := cell_ints (upd2_row _ _ hq) rfl
theorem fv_pr {b0 : Nat} {h : Hp} {pp c0 k : Nat} {v : Nat} (hr : isRef c0 k = true) : fv b0 (h.1, h.2.1, upd2 h.2.2 pp k (some v)) pp c0 k = .ref (b0 + v) := by simp [fv, hr, upd2, va_rf]
theorem fv_prn {b0 : Nat} {h : Hp} {pp c0 k j : Nat} {v : Option Nat} (hj : j ≠ k) : fv b0 (h.1, h.2.1, upd2 h.2.2 pp k v) pp c0 j = fv b0 h pp c0 j := by simp [fv, upd2, hj]
theorem ce_pr {h : Hp} {pp k q : Nat} {v : Option Nat} (hq : q ≠ pp) : cellE K (h.1, h.2.1, upd2 h.2.2 pp k v) q = cellE K h q := cell_ints rfl (upd2_row _ _ hq)
theorem w_pi (C : CX K p m c cc nL s args own) (X : HX K s.heap H locs h) {pp idx c0 k : Nat} {v : Int32} {f : Hp → Option ρ} (hF : FLD own idx c0 k) (hr : isRef c0 k = false) (hfin : (FT c0 k).2.2.2 = false) (hn : narrow (FY c0 k) (.int v) = .int v) (hfit : fits (FY c0 k) (.int v) = true) (hdg : decode cc pc = .ok (.putfield idx, 3)) (hp : pi h pp c0 k v f = some z)
    (kk : ∀ (H1 : Heap) (locs1 : List Loc) (h' : Hp), HX K s.heap H1 locs1 h' → f h' = some z → W p l e R s m args below meth c H1 locs1 cells slots Q (F0 m (pc + 3) ls rest)) : W p l e R s m args below meth c H locs cells slots Q (F0 m pc ls (.int v :: .ref (K.1 + pp) :: rest)) := by
  unfold pi at hp
  split at hp
  next hc => exact w_put (h' := (h.1, upd2 h.2.1 pp k v, h.2.2)) C X hF hfin hn hfit hdg hc.1 hc.2 rfl (fv_pi hr) (fun j hj => fv_pin hj) (fun q hq => ce_pi hq) (fun H1 locs1 X1 => kk H1 locs1 _ X1 hp)
  next => cases hp
theorem w_pif (C : CX K p m c cc nL s args own) (X : HX K s.heap H locs h) {pp idx c0 k : Nat} {v : Int32} {f : Hp → Option ρ} (hF : FLD own idx c0 k) (hr : isRef c0 k = false) (hfin : (FT c0 k).2.2.2 = true) (hin : meth.name = "<init>") (hdecl : (FT c0 k).1 = own) (hlk : Cond.fieldLink own idx (FT c0 k).1 (FT c0 k).2.1 (FT c0 k).2.2.1 ∈ TBg) (hn : narrow (FY c0 k) (.int v) = .int v) (hfit : fits (FY c0 k) (.int v) = true) (hdg : decode cc pc = .ok (.putfield idx, 3)) (hp : pi h pp c0 k v f = some z)
    (kk : ∀ (H1 : Heap) (locs1 : List Loc) (h' : Hp), HX K s.heap H1 locs1 h' → f h' = some z → W p l e R s m args below meth c H1 locs1 cells slots Q (F0 m (pc + 3) ls rest)) : W p l e R s m args below meth c H locs cells slots Q (F0 m pc ls (.int v :: .ref (K.1 + pp) :: rest)) := by
  unfold pi at hp
  split at hp
  next hc => exact w_putF (h' := (h.1, upd2 h.2.1 pp k v, h.2.2)) C X hF hfin hin hdecl hlk hn hfit hdg hc.1 hc.2 rfl (fv_pi hr) (fun j hj => fv_pin hj) (fun q hq => ce_pi hq) (fun H1 locs1 X1 => kk H1 locs1 _ X1 hp)
  next => cases hp
theorem w_prf (C : CX K p m c cc nL s args own) (X : HX K s.heap H locs h) {pp idx c0 k : Nat} {v : Nat} {f : Hp → Option ρ} (hF : FLD own idx c0 k) (hr : isRef c0 k = true) (hfin : (FT c0 k).2.2.2 = true) (hin : meth.name = "<init>") (hdecl : (FT c0 k).1 = own) (hlk : Cond.fieldLink own idx (FT c0 k).1 (FT c0 k).2.1 (FT c0 k).2.2.1 ∈ TBg) (hn : ∀ a, narrow (FY c0 k) (.ref a) = .ref a) (hfit : ∀ a, fits (FY c0 k) (.ref a) = true) (hdg : decode cc pc = .ok (.putfield idx, 3)) (hp : pr h pp c0 k v f = some z)
    (kk : ∀ (H1 : Heap) (locs1 : List Loc) (h' : Hp), HX K s.heap H1 locs1 h' → f h' = some z → W p l e R s m args below meth c H1 locs1 cells slots Q (F0 m (pc + 3) ls rest)) : W p l e R s m args below meth c H locs cells slots Q (F0 m pc ls (.ref (K.1 + v) :: .ref (K.1 + pp) :: rest)) := by
  unfold pr at hp
  split at hp
  next hc => exact w_putF (h' := (h.1, h.2.1, upd2 h.2.2 pp k (some v))) C X hF hfin hin hdecl hlk (hn _) (hfit _) hdg hc.1 hc.2 rfl (fv_pr hr) (fun j hj => fv_prn hj) (fun q hq => ce_pr hq) (fun H1 locs1 X1 => kk H1 locs1 _ X1 hp)
  next => cases hp
theorem vin_of {i : Int32} {n : Nat} (h1 : ¬ i < 0) (h2 : i.toNatClampNeg < n) : vp_in i n := fun q => q.elim h1 (fun q => absurd h2 (Nat.not_lt.mpr q))
theorem w_al (C : CX K p m c cc nL s args own) (X : HX K s.heap H locs h) {pp : Nat} {i : Int32} {f : Int32 → Option ρ} (hdg : decode cc pc = .ok (.iaload, 1)) (hp : al h pp i f = some z)
    (kk : ∀ v, f v = some z → W p l e R s m args below meth c H locs cells slots Q (F0 m (pc + 1) ls (.int v :: rest))) : W p l e R s m args below meth c H locs cells slots Q (F0 m pc ls (.int i :: .ref (K.1 + pp) :: rest)) := by
  obtain ⟨hx, hb, -, hown, hts, hK, hN, -⟩ := C
  unfold al at hp
  split at hp
  next hc => exact va_iald hx hb hK X.1 pp 0 (by rw [wsH_at K hc.1, cell_int hc.2.1]) rfl (vin_of hc.2.2.1 hc.2.2.2) hdg (kk _ hp)
  next => cases hp
theorem w_ln (C : CX K p m c cc nL s args own) (X : HX K s.heap H locs h) {pp : Nat} {f : Int32 → Option ρ} (hdg : decode cc pc = .ok (.arraylength, 1)) (hp : ln h pp f = some z)
    (kk : ∀ v, f v = some z → W p l e R s m args below meth c H locs cells slots Q (F0 m (pc + 1) ls (.int v :: rest))) : W p l e R s m args below meth c H locs cells slots Q (F0 m pc ls (.ref (K.1 + pp) :: rest)) := by
  obtain ⟨hx, hb, -, hown, hts, hK, hN, -⟩ := C
  unfold ln at hp
  split at hp
  next hc =>
    rcases hc.2 with h7 | h8
    · exact va_alen hx hb hK X.1 pp 0 (by rw [wsH_at K hc.1, cell_int h7]) rfl rfl hdg (kk _ hp)
    · exact va_alen hx hb hK X.1 pp 1 (by rw [wsH_at K hc.1, cell_ref h8]) rfl rfl hdg (kk _ hp)
  next => cases hp
theorem w_rl (C : CX K p m c cc nL s args own) (X : HX K s.heap H locs h) {pp : Nat} {i : Int32} {f : Option Nat → Option ρ} (hdg : decode cc pc = .ok (.aaload, 1)) (hp : rl h pp i f = some z)
    (kk : ∀ v, f v = some z → W p l e R s m args below meth c H locs cells slots Q (F0 m (pc + 1) ls (va_rf (v.map (fun q => K.1 + q)) :: rest))) : W p l e R s m args below meth c H locs cells slots Q (F0 m pc ls (.int i :: .ref (K.1 + pp) :: rest)) := by
  obtain ⟨hx, hb, -, hown, hts, hK, hN, -⟩ := C
  unfold rl at hp
  split at hp
  next hc => exact va_aldq hx hb hK X.1 pp 1 (by rw [wsH_at K hc.1, cell_ref hc.2.1]) rfl (vin_of hc.2.2.1 hc.2.2.2) hdg (kk _ hp)
  next => cases hp
theorem w_as (C : CX K p m c cc nL s args own) (X : HX K s.heap H locs h) {pp : Nat} {i v : Int32} {f : Hp → Option ρ} (hdg : decode cc pc = .ok (.iastore, 1)) (hp : as h pp i v f = some z)
    (kk : ∀ (H1 : Heap) (locs1 : List Loc) (h' : Hp), HX K s.heap H1 locs1 h' → f h' = some z → W p l e R s m args below meth c H1 locs1 cells slots Q (F0 m (pc + 1) ls rest)) : W p l e R s m args below meth c H locs cells slots Q (F0 m pc ls (.int v :: .int i :: .ref (K.1 + pp) :: rest)) := by
  obtain ⟨hx, hb, -, hown, hts, hK, hN, -⟩ := C
  unfold as at hp
  split at hp
  next hc =>
    have he : (wsH K h)[pp]? = some (K.1 + pp, .inl (K.2.2.1, (SH pp).2, .inl (h.2.1 pp))) := by rw [wsH_at K hc.1, cell_int hc.2.1]
    refine W.iast hx hb (X.1 pp _ he) ((hK.2 0 _ rfl).1 (SH pp).2 (fun j => .int (h.2.1 pp j))) (fun q => by cases q) (by show ¬ (i < 0 ∨ (arrV _ _ _).slots.size ≤ _); rw [arrV_size]; exact vin_of hc.2.2.1 hc.2.2.2) rfl rfl hdg fun H1 e1 e2 e3 => ?_
    refine kk H1 _ _ (hx_set (h' := (h.1, upd2 h.2.1 pp i.toNatClampNeg v, h.2.2)) X hc.1 rfl (cell_int hc.2.1) (fun q hq => ce_pi hq) ?_ e2 e3) hp
    show H1[K.1 + pp]? = some (vp_cell _ _)
    rw [e1, vp_cell_i, vp_cell_i, arrV_store]
    congr 2
    funext q
    by_cases hq : q = i.toNatClampNeg
    · subst hq
      simp [updV, upd2]
    · simp [updV, upd2, hq]
  next => cases hp
theorem w_rs (C : CX K p m c cc nL s args own) (X : HX K s.heap H locs h) {pp : Nat} {i : Int32} {v : Option Nat} {f : Hp → Option ρ} (hdg : decode cc pc = .ok (.aastore, 1)) (hp : rs h pp i v f = some z)
    (kk : ∀ (H1 : Heap) (locs1 : List Loc) (h' : Hp), HX K s.heap H1 locs1 h' → f h' = some z → W p l e R s m args below meth c H1 locs1 cells slots Q (F0 m (pc + 1) ls rest)) : W p l e R s m args below meth c H locs cells slots Q (F0 m pc ls (va_rf (v.map (fun q => K.1 + q)) :: .int i :: .ref (K.1 + pp) :: rest)) := by
  obtain ⟨hx, hb, -, hown, hts, hK, hN, -⟩ := C
  unfold rs at hp
  split at hp
  next hc =>
    obtain ⟨c1, c2, ⟨c3, c4⟩, c5⟩ := hc
    have he : (wsH K h)[pp]? = some (K.1 + pp, .inl (K.2.2.2.1, (SH pp).2, .inr (.inr (.inr (.inr (fun j => (h.2.2 pp j).map (fun q => K.1 + q))))))) := by rw [wsH_at K c1, cell_ref c2]
    have fin : ∀ (H1 : Heap), H1[K.1 + pp]? = some ((vp_cell K.2.2.2.1 ((SH pp).2, .inr (.inr (.inr (.inr (fun j => (h.2.2 pp j).map (fun q => K.1 + q))))))).setSlot i.toNatClampNeg (va_rf (v.map (fun q => K.1 + q)))) → va_at K.2.1 cls (K.1 + pp, .inl (K.2.2.2.1, (SH pp).2, .inr (.inr (.inr (.inr (fun j => ((upd2 h.2.2 pp i.toNatClampNeg v) pp j).map (fun q => K.1 + q))))))) H1 := by
      intro H1 e1
      show H1[K.1 + pp]? = some (vp_cell _ _)
      rw [e1, vp_cell_q, vp_cell_q, arrV_store]
      congr 2
      funext q
      by_cases hq : q = i.toNatClampNeg
      · subst hq
        simp [updV, upd2]
      · simp [updV, upd2, hq]
    cases v with
    | none =>
      refine va_WaastN (C := "TurnsMultiples$Goer") hx hb (X.1 pp _ he) ((hK.2 1 _ rfl).1 (SH pp).2 _) (fun h => by cases h) (by show ¬ (i < 0 ∨ (arrV _ _ _).slots.size ≤ _); rw [arrV_size]; exact vin_of c3 c4) rfl rfl hdg fun H1 e1 e2 e3 => ?_
      exact kk H1 _ _ (hx_set (h' := (h.1, h.2.1, upd2 h.2.2 pp i.toNatClampNeg none)) X c1 rfl (cell_ref c2) (fun q hq => ce_pr hq) (fin H1 e1) e2 e3) hp
    | some q =>
      obtain ⟨cq1, cq2⟩ := c5 q rfl
      have hv : (wsH K h)[q]? = some (K.1 + q, .inr (2, (List.range (FN 2)).map (fv K.1 h q 2))) := by rw [wsH_at K cq1, cell_obj cq2 (by decide)]
      obtain ⟨r', hr', cellV, g1, g2, g3, -⟩ := X.1 q _ hv
      have hcls := (hK.1 2 _ (cls_at 2 (by decide))).2
      obtain ⟨kA, comp, k1, k2, k3, -⟩ := (hK.2 1 _ rfl).2
      have hcomp : comp = K.2.1.1 2 := Option.some.inj (k3.symm.trans hcls.1)
      subst hcomp
      obtain ⟨kC, hkC, -⟩ := hcls.2
      refine W.aast hx hb (X.1 pp _ he) (fun q h => by cases h) (fun h => by cases h) k1 k2 rfl hkC ⟨c3, by show _ < (arrV _ _ _).slots.size; rw [arrV_size]; exact c4⟩ g1 (fun q h => by rw [g3] at h; cases h) (by rw [g2]; exact hkC) (by rw [g2]; exact va_assign hcls) rfl rfl hdg fun H1 e1 e2 e3 => ?_
      exact kk H1 _ _ (hx_set (h' := (h.1, h.2.1, upd2 h.2.2 pp i.toNatClampNeg (some q))) X c1 rfl (cell_ref c2) (fun q hq => ce_pr hq) (fin H1 e1) e2 e3) hp
  next => cases hp
end ROWS
